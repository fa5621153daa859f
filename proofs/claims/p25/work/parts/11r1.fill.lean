theorem mp_isQuill {p1 p2 r : Int32} (e : f_X9_isQuill p1 p2 = some r) : (r = 0 ∧ ¬ QUI p1 p2) ∨ (r = 1 ∧ QUI p1 p2) := by
  have y0 : (0 : Int32).toInt = 0 := rfl
  have y5 : (5 : Int32).toInt = 5 := rfl
  have y2 : (2 : Int32).toInt = 2 := rfl
  unfold f_X9_isQuill f_X9_isQuill_22 f_X9_isQuill_23 at e
  obtain ⟨r1, a1, e⟩ := ob1_some e
  unfold QUI
  rcases mx_in a1 with ⟨k, q⟩ | ⟨k, q⟩
  · rw [if_pos k, if_pos (Or.inl rfl)] at e
    cases e
    exact Or.inl ⟨rfl, fun w => q ⟨by omega, by omega⟩⟩
  · rw [if_neg (by rw [k]; decide)] at e
    obtain ⟨r3, a3, e⟩ := ob1_some e
    rcases mx_in a3 with ⟨k3, q3⟩ | ⟨k3, q3⟩
    · rw [if_pos k3, if_pos (Or.inl rfl)] at e
      cases e
      exact Or.inl ⟨rfl, fun w => q3 ⟨by omega, by omega⟩⟩
    · rw [if_neg (by rw [k3]; decide), if_pos (Or.inr rfl)] at e
      cases e
      exact Or.inr ⟨rfl, ⟨by omega, by omega⟩, by omega, by omega⟩
theorem STD_done {S T : CL} {h g : HS} {z w : Int32 × HS} (s : STD h g) (d : DONE h g z w) (f : Fr S h z.2) (k : Fr T g w.2) (n1 : (0, 1, 9) ∉ S) (n2 : ∀ y ∈ KTC, y ∉ S) (n4 : ∀ y ∈ KTM, y ∉ T) : STD z.2 w.2 := by
  refine ⟨d.2.1, d.2.2, ?_⟩
  have e : eA w.2 0 0 3 = eA g 0 0 3 := by
    rw [← d.2.1.1.2.2.2.2.2.2.1, f.1 1 9 n1]
    exact s.1.1.2.2.2.2.2.2.1
  rw [e]
  exact TXS_fr s.2.2 f k n2 n4
theorem j_fill {h g : HS} {p l r : Int32} {z w : Int32 × HS} (s : STD h g) (e1 : f_X8_fill h p l r = some z) (e2 : f_X9_fill g p l r = some w) : DONE h g z w := by
  have y0 : (0 : Int32).toInt = 0 := rfl
  have y1 : (1 : Int32).toInt = 1 := rfl
  obtain ⟨n1, n0, n4⟩ := std_n s
  have sr := s.1
  have rg := s.2.1
  have rw0 := rg.2.2.1
  have s3 : eI h 1 3 = eA g 0 0 1 := sr.1.1
  have s5 : eI h 1 5 = eA g 0 0 120 := sr.1.2.2.1
  have yes : ∀ (q : Nat), p.toInt = (q : Int) → (q : Int) < (eA g 0 0 1).toInt → gc (eA g 0 0) 30 q 4 = 0 → gc (eA g 0 0) 30 q 2 = -1 → QUI l r → DONE h g z w := by
    intro q q1 q2 q3 ql qu
    have c4 := sr_g sr q2 (show 4 < 9 by decide)
    have c2 := sr_g sr q2 (show 2 < 9 by decide)
    unfold f_X8_fill at e1
    obtain ⟨r1, a1, e1⟩ := ob1_some e1
    rcases cp_isQuill a1 with ⟨-, k⟩ | ⟨k, -⟩
    · exact absurd qu k
    rw [if_neg (by rw [k]; decide)] at e1
    obtain ⟨r3, h3, a3, e1⟩ := ob2_some e1
    obtain ⟨k1, k2⟩ := cp_isHome a3 (by rw [s3]; exact n1.2)
    have k1 : h = h3 := k1.symm
    subst k1
    rw [s3] at k2
    rcases k2 with ⟨k2, -⟩ | ⟨-, k3⟩
    rotate_left
    · exact absurd (c4.trans q3) (k3 q q1 q2)
    have k2 : r3 = 1 := k2
    rw [if_neg (by rw [k2]; decide)] at e1
    obtain ⟨r5, h5, a5, e1⟩ := ob2_some e1
    obtain ⟨rfl, rfl⟩ := pr_inj (cp_ofGoose (q := q) (k := 2) a5 q1 rfl (by rw [s3]; exact q2) (by rw [s3]; exact n1.2) (by decide))
    rw [if_pos (c2.trans ql)] at e1
    obtain ⟨r7, h7, a7, e1⟩ := ob2_some e1
    unfold f_X9_fill at e2
    obtain ⟨r2, g2, b2, e2⟩ := ob2_some e2
    obtain ⟨l1, l2⟩ := mp_isHome b2 n1
    have l1 : g = g2 := l1.symm
    subst l1
    rcases l2 with ⟨l2, -⟩ | ⟨-, l3⟩
    rotate_left
    · exact absurd q3 (l3 q q1 q2)
    have l2 : r2 = 1 := l2
    rw [if_neg (by rw [l2]; decide)] at e2
    obtain ⟨r4, g4, b4, e2⟩ := ob2_some e2
    obtain ⟨rfl, rfl⟩ := pr_inj (mp_ofGoose (q := q) (k := 2) b4 q1 rfl (by omega) (by decide))
    rw [if_pos ql] at e2
    obtain ⟨r6, b6, e2⟩ := ob1_some e2
    rcases mp_isQuill b6 with ⟨-, k'⟩ | ⟨k', -⟩
    · exact absurd qu k'
    rw [if_neg (by rw [k']; decide)] at e2
    obtain ⟨r8, g8, b8, e2⟩ := ob2_some e2
    obtain ⟨i1, i2, i3⟩ := j_ink s q1 q2 qu a7 b8
    have i1 : r7 = r8 := i1
    have i2 : 0 ≤ r8.toInt := i2
    have i3 : r8.toInt ≤ 99 := i3
    have f7 := w_f_X1_inkCost _ _ _ _ _ a7
    have f8 := w_f_X9_inkOf _ _ _ _ _ b8
    have f7 : Fr S_X1_inkCost h h7 := f7
    have f8 : Fr S_X9_inkOf g g8 := f8
    have h75 : eI h7 1 5 = eA g 0 0 120 := (f7.1 1 5 (by decide)).trans s5
    have g80 : eA g8 0 0 = eA g 0 0 := f8.2.1 0 0 (by decide)
    rw [h75, i1] at e1
    rw [g80] at e2
    by_cases c : r8 ≤ eA g 0 0 120
    · rw [if_pos c] at e1 e2
      have dc := gi_of_le c
      obtain ⟨r9, g9, b9, e2⟩ := ob2_some e2
      have s8 : STD h g8 := STD_fr s (Fr_refl [] h) f8 (by decide) (by decide) (by decide) (by decide)
      obtain ⟨j1, -⟩ := j_ink (q := q) s8 q1 (by rw [g80]; exact q2) qu a7 b9
      have j1 : r7 = r9 := j1
      have r98 : r8 = r9 := (j1.symm.trans i1).symm
      subst r98
      have f9 := w_f_X9_inkOf _ _ _ _ _ b9
      have f9 : Fr S_X9_inkOf g8 g9 := f9
      have g90 : eA g9 0 0 = eA g 0 0 := (f9.2.1 0 0 (by decide)).trans g80
      have sr7 : SRel h7 1 (eA g9 0 0) := by rw [g90]; exact SRel_fr sr f7 (by decide)
      have rg9 : RG (eA g9 0 0) := by rw [g90]; exact rg
      obtain ⟨h9, a9, e1⟩ := ob1_some e1
      obtain ⟨g10, b10, e2⟩ := ob1_some e2
      obtain ⟨t1, t2, t3, t4, t5, t6⟩ := j_keep sr7 rg9 a9 b10
      rw [g90] at t4
      have v1 : eA g10 0 0 1 = eA g 0 0 1 := t4 1 (by decide) (by decide)
      have v120 : eA g10 0 0 120 = eA g 0 0 120 := t4 120 (by decide) (by decide)
      have h13 : eI h9 1 3 = eA g10 0 0 1 := t1.1.1
      have h15 : eI h9 1 5 = eA g10 0 0 120 := t1.1.2.2.1
      have q5 : (q : Int) < (eA g10 0 0 1).toInt := by rw [v1]; exact q2
      obtain ⟨h10, a10, e1⟩ := ob1_some e1
      have E10 := cp_setGoose (q := q) (k := 2) a10 q1 rfl (by show (q : Int) < (eI h9 1 3).toInt; rw [h13]; exact q5) (by show (eI h9 1 3).toInt ≤ 10; rw [h13, v1]; exact n1.2) (by decide)
      subst E10
      obtain ⟨h11, a11, e1⟩ := ob1_some e1
      have E11 := cp_setGoose (q := q) (k := 3) a11 q1 rfl (by show (q : Int) < (eI h9 1 3).toInt; rw [h13]; exact q5) (by show (eI h9 1 3).toInt ≤ 10; rw [h13, v1]; exact n1.2) (by decide)
      subst E11
      cases e1
      obtain ⟨g11, b11, e2⟩ := ob1_some e2
      have F11 := mp_puts (q := q) (k := 2) b11 q1 rfl (by omega) (by decide)
      subst F11
      obtain ⟨g12, b12, e2⟩ := ob1_some e2
      have F12 := mp_puts (q := q) (k := 3) b12 q1 rfl (by omega) (by decide)
      subst F12
      cases e2
      obtain ⟨X, hX⟩ : ∃ X : Nat → Int32, X = upd (upd (eA g10 0 0) (30 + (9 * q + 2)) l) (30 + (9 * q + 3)) r := ⟨_, rfl⟩
      have X120 : X 120 = eA g10 0 0 120 := by rw [hX, ud_ne (by omega), ud_ne (by omega)]
      have X1 : X 1 = eA g10 0 0 1 := by rw [hX, ud_ne (by omega), ud_ne (by omega)]
      have gs := fb_subI (x := eA g10 0 0 120) (y := r8) (by rw [v120]; omega) (by rw [v120]; have := fb_rng (eA g 0 0 120); omega)
      have R := FIN (q := q) (h' := sA (sA (sI h9 1 5 (eI h9 1 5 - r8)) 1 0 (upd (eA h9 1 0) (9 * q + 2) l)) 1 0 (upd (upd (eA h9 1 0) (9 * q + 2) l) (9 * q + 3) r)) (B := upd X 120 (X 120 - r8)) t1 t2 t3 q5 (fun k hc h120 => by rw [ud_ne h120, hX, ud_ne (hc 3 (by decide)), ud_ne (hc 2 (by decide))]) (Fr_sA (by decide) (Fr_sA (by decide) (Fr_sI (by decide) (Fr_refl _ _)))) (by
        refine GEE_out ?_ (by rw [X1, v1]; exact n1.2) (by decide) (by decide)
        rw [hX]
        exact GEE_upd (GEE_upd t1.2.1 (by omega)) (by omega)) (by
        rw [ud_eq, X120, ← h15]
        rfl) (by
        rw [ud_eq, X120]
        rw [v120] at gs ⊢
        omega) (fun gr5 => by
        unfold GR at gr5 ⊢
        unfold QUI at qu
        rw [hX]
        simp (disch := omega) only [gc_upd_ne, gc_upd_eq]
        omega)
      rw [hX] at R X120
      refine ⟨?_, R.1, R.2.2⟩
      show eI h9 1 5 - r8 = upd (upd (upd (eA g10 0 0) (30 + (9 * q + 2)) l) (30 + (9 * q + 3)) r) 120 (upd (upd (eA g10 0 0) (30 + (9 * q + 2)) l) (30 + (9 * q + 3)) r 120 - r8) 120
      rw [ud_eq, X120, h15]
    · rw [if_neg c] at e1 e2
      unfold f_X9_fill_43 at e2
      cases e1
      cases e2
      refine ⟨rfl, ?_, ?_⟩
      · show SRel h7 1 (eA g8 0 0)
        rw [g80]
        exact SRel_fr sr f7 (by decide)
      · show RG (eA g8 0 0)
        rw [g80]
        exact rg
  have no1 : (∀ (q : Nat), p.toInt = (q : Int) → (q : Int) < (eA g 0 0 1).toInt → gc (eA g 0 0) 30 q 4 = 0 → gc (eA g 0 0) 30 q 2 = -1 → QUI l r → False) → DONE h g z w := by
    intro no
    have hz : z = (-1, h) := by
      unfold f_X8_fill f_X8_fill_32 at e1
      obtain ⟨r1, a1, e1⟩ := ob1_some e1
      rcases cp_isQuill a1 with ⟨k, -⟩ | ⟨k, qu⟩
      · rw [if_pos k] at e1
        exact (Option.some.inj e1).symm
      · rw [if_neg (by rw [k]; decide)] at e1
        obtain ⟨r3, h3, a3, e1⟩ := ob2_some e1
        obtain ⟨k1, k2⟩ := cp_isHome a3 (by rw [s3]; exact n1.2)
        have k1 : h = h3 := k1.symm
        subst k1
        rw [s3] at k2
        rcases k2 with ⟨k2, q, q1, q2, q3⟩ | ⟨k2, -⟩
        · have k2 : r3 = 1 := k2
          rw [if_neg (by rw [k2]; decide)] at e1
          obtain ⟨r5, h5, a5, e1⟩ := ob2_some e1
          obtain ⟨rfl, rfl⟩ := pr_inj (cp_ofGoose (q := q) (k := 2) a5 q1 rfl (by rw [s3]; exact q2) (by rw [s3]; exact n1.2) (by decide))
          by_cases c : eA h 1 0 (9 * q + 2) = -1
          · exact (no q q1 q2 ((sr_g sr q2 (show 4 < 9 by decide)).symm.trans q3) ((sr_g sr q2 (show 2 < 9 by decide)).symm.trans c) qu).elim
          · rw [if_neg c] at e1
            exact (Option.some.inj e1).symm
        · have k2 : r3 = 0 := k2
          rw [if_pos k2] at e1
          exact (Option.some.inj e1).symm
    have hw : w = (-1, g) := by
      unfold f_X9_fill f_X9_fill_43 at e2
      obtain ⟨r2, g2, b2, e2⟩ := ob2_some e2
      obtain ⟨l1, l2⟩ := mp_isHome b2 n1
      have l1 : g = g2 := l1.symm
      subst l1
      rcases l2 with ⟨l2, q, q1, q2, q3⟩ | ⟨l2, -⟩
      · have l2 : r2 = 1 := l2
        rw [if_neg (by rw [l2]; decide)] at e2
        obtain ⟨r4, g4, b4, e2⟩ := ob2_some e2
        obtain ⟨rfl, rfl⟩ := pr_inj (mp_ofGoose (q := q) (k := 2) b4 q1 rfl (by omega) (by decide))
        by_cases c : gc (eA g 0 0) 30 q 2 = -1
        · rw [if_pos c] at e2
          obtain ⟨r6, b6, e2⟩ := ob1_some e2
          rcases mp_isQuill b6 with ⟨k', -⟩ | ⟨-, qu⟩
          · rw [if_pos k'] at e2
            exact (Option.some.inj e2).symm
          · exact (no q q1 q2 q3 c qu).elim
        · rw [if_neg c] at e2
          exact (Option.some.inj e2).symm
      · have l2 : r2 = 0 := l2
        rw [if_pos l2] at e2
        exact (Option.some.inj e2).symm
    rw [hz, hw]
    exact DONE_no sr rg
  by_cases c : ∃ (q : Nat), p.toInt = (q : Int) ∧ (q : Int) < (eA g 0 0 1).toInt ∧ gc (eA g 0 0) 30 q 4 = 0 ∧ gc (eA g 0 0) 30 q 2 = -1 ∧ QUI l r
  · obtain ⟨q, c1, c2, c3, c4, c5⟩ := c
    exact yes q c1 c2 c3 c4 c5
  · exact no1 (fun q c1 c2 c3 c4 c5 => c ⟨q, c1, c2, c3, c4, c5⟩)
/-! the laws of the market -/
def NMT (nm : Nat → Int32) (p : Int32) (A : Nat → Int32) (q m : Nat) : Prop := nm 0 = p ∧ nm 1 = gc A 30 q 0 ∧ nm 2 = gc A 30 q 1 ∧ nm 3 = gc A 30 q 2 ∧ nm 4 = gc A 30 q 3 ∧ nm 5 = gc A 30 q 6 ∧ nm 6 = gc A 30 q 5 ∧ nm 7 = A (10 + (3 * m + 1)) ∧ nm 8 = A (10 + (3 * m + 2))
theorem cp_lookTrav {h h1 g : HS} {p : Int32} {q m : Nat} (s : STD h g) (e : f_X1_lookAtTraveller h p = some h1) (hp : p.toInt = (q : Int)) (hq : (q : Int) < (eA g 0 0 1).toInt) (hm : (gc (eA g 0 0) 30 q 5).toInt = (m : Int)) (m0 : (m : Int) < (eA g 0 0 0).toInt) : NMT (eA h1 6 1) p (eA g 0 0) q m := by
  obtain ⟨n1, n0, n4⟩ := std_n s
  have s3 : eI h 1 3 = eA g 0 0 1 := s.1.1.1
  have s4 : eI h 1 4 = eA g 0 0 0 := s.1.1.2.1
  unfold f_X1_lookAtTraveller at e
  obtain ⟨h2, a2, e⟩ := ob1_some e
  have lk := cp_lookAt (q := q) a2 hp (by rw [s3]; exact hq) (by rw [s3]; exact n1.2)
  have f2 := w_f_X1_lookAt _ _ _ a2
  have t3 : eI h2 1 3 = eA g 0 0 1 := (f2.1 1 3 (by decide)).trans s3
  have t4 : eI h2 1 4 = eA g 0 0 0 := (f2.1 1 4 (by decide)).trans s4
  have t0 : eA h2 1 0 = eA h 1 0 := f2.2.1 1 0 (by decide)
  have t1 : eA h2 1 1 = eA h 1 1 := f2.2.1 1 1 (by decide)
  obtain ⟨r3, h3, a3, e⟩ := ob2_some e
  obtain ⟨rfl, rfl⟩ := pr_inj (cp_ofGoose (q := q) (k := 5) a3 hp rfl (by rw [t3]; exact hq) (by rw [t3]; exact n1.2) (by decide))
  obtain ⟨r4, h4, a4, e⟩ := ob2_some e
  obtain ⟨rfl, rfl⟩ := pr_inj (cp_ofGoose (q := q) (k := 6) a4 hp rfl (by rw [t3]; exact hq) (by rw [t3]; exact n1.2) (by decide))
  obtain ⟨h5, a5, e⟩ := ob1_some e
  cases e
  have g5 : eA h2 1 0 (9 * q + 5) = gc (eA g 0 0) 30 q 5 := by rw [t0]; exact sr_g s.1 hq (by decide)
  have g6 : eA h2 1 0 (9 * q + 6) = gc (eA g 0 0) 30 q 6 := by rw [t0]; exact sr_g s.1 hq (by decide)
  rw [g5, g6] at a5
  unfold f_X1_lookAtMarket at a5
  obtain ⟨r6, h6, a6, a5⟩ := ob2_some a5
  obtain ⟨rfl, rfl⟩ := pr_inj (cp_ofMarket (q := m) (k := 1) a6 hm rfl (by show (m : Int) < (eI h2 1 4).toInt; rw [t4]; exact m0) (by show (eI h2 1 4).toInt ≤ 4; rw [t4]; exact n0.2) (by decide))
  obtain ⟨r7, h7, a7, a5⟩ := ob2_some a5
  obtain ⟨rfl, rfl⟩ := pr_inj (cp_ofMarket (q := m) (k := 2) a7 hm rfl (by show (m : Int) < (eI h2 1 4).toInt; rw [t4]; exact m0) (by show (eI h2 1 4).toInt ≤ 4; rw [t4]; exact n0.2) (by decide))
  cases a5
  have w1 : eA h2 1 1 (3 * m + 1) = eA g 0 0 (10 + (3 * m + 1)) := by rw [t1]; exact sr_m s.1 m0 (by decide)
  have w2 : eA h2 1 1 (3 * m + 2) = eA g 0 0 (10 + (3 * m + 2)) := by rw [t1]; exact sr_m s.1 m0 (by decide)
  have b0 := sr_g s.1 hq (show 0 < 9 by decide)
  have b1 := sr_g s.1 hq (show 1 < 9 by decide)
  have b2 := sr_g s.1 hq (show 2 < 9 by decide)
  have b3 := sr_g s.1 hq (show 3 < 9 by decide)
  have L : ∀ k : Nat, eA h2 6 1 k = LK (eA h 6 1) p (eA h 1 0 (9 * q + 0)) (eA h 1 0 (9 * q + 1)) (eA h 1 0 (9 * q + 2)) (eA h 1 0 (9 * q + 3)) (eI h 1 7) k := fun k => by rw [lk]
  refine ⟨L 0, (L 1).trans b0, (L 2).trans b1, (L 3).trans b2, (L 4).trans b3, rfl, rfl, w1, w2⟩
theorem j_market {h g : HS} {p lw : Int32} {q m : Nat} {r w : Int32 × HS} (s : STD h g) (hl : lw = 0 ∨ lw = 1) (hp : p.toInt = (q : Int)) (hq : (q : Int) < (eA g 0 0 1).toInt) (hm : (gc (eA g 0 0) 30 q 5).toInt = (m : Int)) (m0 : (m : Int) < (eA g 0 0 0).toInt) (nt : NMT (eA h 6 1) p (eA g 0 0) q m) (e1 : f_X1_rule h lw = some r) (e2 : f_X9_marketOf g lw p = some w) : r.1 = w.1 := by
  have y10 : (10 : Int32).toInt = 10 := rfl
  have y3 : (3 : Int32).toInt = 3 := rfl
  have y1 : (1 : Int32).toInt = 1 := rfl
  have y2 : (2 : Int32).toInt = 2 := rfl
  obtain ⟨n1, n0, n4⟩ := std_n s
  have l0 : 0 ≤ lw.toInt ∧ lw.toInt ≤ 1 := by rcases hl with h | h <;> rw [h] <;> decide
  unfold f_X9_marketOf at e2
  obtain ⟨r1, g1, a1, e2⟩ := ob2_some e2
  obtain ⟨rfl, rfl⟩ := pr_inj (mp_ofGoose (q := q) (k := 2) a1 hp rfl (by omega) (by decide))
  obtain ⟨r2, g2, a2, e2⟩ := ob2_some e2
  obtain ⟨rfl, rfl⟩ := pr_inj (mp_ofGoose (q := q) (k := 3) a2 hp rfl (by omega) (by decide))
  obtain ⟨r3, g3, a3, e2⟩ := ob2_some e2
  obtain ⟨rfl, rfl⟩ := pr_inj (mp_ofGoose (q := q) (k := 5) a3 hp rfl (by omega) (by decide))
  obtain ⟨r4, g4, a4, e2⟩ := ob2_some e2
  obtain ⟨rfl, rfl⟩ := pr_inj (mp_ofGoose (q := q) (k := 6) a4 hp rfl (by omega) (by decide))
  obtain ⟨r5, g5, a5, e2⟩ := ob2_some e2
  cases e2
  show r.1 = r5
  have m3 : (3 * gc (eA g 0 0) 30 q 5).toInt = 3 * (gc (eA g 0 0) 30 q 5).toInt := fb_mulJ rfl (by omega) (by omega)
  have m4 := fb_addI (x := 10) (y := 3 * gc (eA g 0 0) 30 q 5) (by omega) (by omega)
  have m5 := fb_addI (x := 10 + 3 * gc (eA g 0 0) 30 q 5) (y := 1) (by omega) (by omega)
  have m6 := fb_addI (x := 10 + 3 * gc (eA g 0 0) 30 q 5) (y := 2) (by omega) (by omega)
  have i1 : (10 + 3 * gc (eA g 0 0) 30 q 5 + 1).toNatClampNeg = 10 + (3 * m + 1) := by show (10 + 3 * gc (eA g 0 0) 30 q 5 + 1).toInt.toNat = _; omega
  have i2 : (10 + 3 * gc (eA g 0 0) 30 q 5 + 2).toNatClampNeg = 10 + (3 * m + 2) := by show (10 + 3 * gc (eA g 0 0) 30 q 5 + 2).toInt.toNat = _; omega
  unfold f_X9_marketTells at a5
  obtain ⟨-, a5⟩ := ob_if a5
  obtain ⟨-, a5⟩ := ob_if a5
  rw [i1, i2] at a5
  obtain ⟨r6, g6, a6, a5⟩ := ob2_some a5
  obtain ⟨u1, u2⟩ := rule_both (lw := lw) l0.1 (by omega) s.1.1.2.2.2.2.2.2.2.1 n4 s.2.2 e1 a6
  have u1 : g = g6 := u1.symm
  subst u1
  obtain ⟨t0, t1, t2, t3, t4, t5, t6, t7, t8⟩ := nt
  rcases u2 with ⟨u2, v0, v1, -⟩ | ⟨u2, u3⟩
  · have u2 : r6 = -1 := u2
    rw [if_pos u2] at a5
    unfold f_X9_marketTells_56 at a5
    by_cases c0 : lw = 0
    · rw [if_pos c0] at a5
      cases a5
      exact (v0 c0).trans t7
    · rw [if_neg c0] at a5
      cases a5
      rcases hl with h | h
      · exact absurd h c0
      · exact (v1 h).trans t8
  · have u2 : ¬ r6 = -1 := u2
    rw [if_neg u2] at a5
    obtain ⟨g7, a7, a5⟩ := ob1_some a5
    obtain ⟨r8, g8, a8, a5⟩ := ob2_some a5
    obtain ⟨r9, a9, a5⟩ := ob1_some a5
    cases a5
    have nm := mp_names (q := q) a7 hp (by omega)
    have f7 := w_f_X9_names _ _ _ _ _ _ a7
    have mb := std_mb s hq
    have mr := s.2.1.2.1 m m0
    have sy := u3 _ _ a8 (Fr_trans (Fr_mono (by decide) f7) (Fr_sA (by decide) (Fr_sA (by decide) (Fr_sA (by decide) (Fr_refl _ _))))) (fun k k9 _ => ?_)
    · obtain ⟨v1, v2, v3, v4⟩ := sy
      have v4 : r.1.toInt = hldI r8.toInt 10 := v4 (by omega)
      have v5 : r5.toInt = hldI r8.toInt 10 := by
        rcases held_ok a9 with v | v
        · exact v
        · omega
      exact gi_eq (v4.trans v5.symm)
    · show eA h 6 1 k = upd (upd (upd (eA g7 0 39) 6 (gc (eA g 0 0) 30 q 5)) 7 (eA g 0 0 (10 + (3 * m + 1)))) 8 (eA g 0 0 (10 + (3 * m + 2))) k ∧ MB (eA h 6 1 k).toInt
      rw [nm]
      unfold MB at mb ⊢
      match k, k9 with
      | 0, _ => exact ⟨t0, by rw [t0]; omega⟩
      | 1, _ => exact ⟨t1, by rw [t1]; omega⟩
      | 2, _ => exact ⟨t2, by rw [t2]; omega⟩
      | 3, _ => exact ⟨t3, by rw [t3]; omega⟩
      | 4, _ => exact ⟨t4, by rw [t4]; omega⟩
      | 5, _ => exact ⟨t5, by rw [t5]; omega⟩
      | 6, _ => exact ⟨t6, by rw [t6]; omega⟩
      | 7, _ => exact ⟨t7, by rw [t7]; omega⟩
      | 8, _ => exact ⟨t8, by rw [t8]; omega⟩
/-! the code: is she true? -/
theorem j_code {h h1 g : HS} {p f l r : Int32} {z w : Int32 × HS} {q : Nat} (s : STD h g) (hp : p.toInt = (q : Int)) (hq : (q : Int) < (eA g 0 0 1).toInt) (hl : l = gc (eA g 0 0) 30 q 2) (hr : r = gc (eA g 0 0) 30 q 3) (hf : MB f.toInt) (fr : Fr [(1, 6, 1)] h h1) (nm : ∀ k : Nat, k < 6 → eA h1 6 1 k = upd (LK (eA h 6 1) p (gc (eA g 0 0) 30 q 0) (gc (eA g 0 0) 30 q 1) (gc (eA g 0 0) 30 q 2) (gc (eA g 0 0) 30 q 3) (eA g 0 0 121)) 2 f k) (e1 : f_X1_rule h1 3 = some z) (e2 : f_X9_isTrueBy g p l r f = some w) : (z.1 = 0 ∧ w.1 = 0) ∨ (¬ z.1 = 0 ∧ w.1 = 1) := by
  have y0 : (0 : Int64).toInt = 0 := rfl
  have z0 : (0 : Int32).toInt = 0 := rfl
  subst hl
  subst hr
  obtain ⟨n1, n0, n4⟩ := std_n s
  unfold f_X9_isTrueBy f_X9_isTrueBy_53 at e2
  obtain ⟨r1, g1, b1, e2⟩ := ob2_some e2
  have tx1 : TXS h1 g (eA g 0 0 3).toInt := TXS_fr s.2.2 fr (Fr_refl [] g) (by decide) (by decide)
  obtain ⟨u1, u2⟩ := rule_both (h := h1) (lw := 3) (by decide) (by decide) (by rw [fr.1 1 10 (by decide)]; exact s.1.1.2.2.2.2.2.2.2.1) n4 tx1 e1 b1
  have u1 : g = g1 := u1.symm
  subst u1
  rcases u2 with ⟨u2, -, -, u3⟩ | ⟨u2, u3⟩
  · have u2 : r1 = -1 := u2
    rw [if_pos u2] at e2
    cases e2
    right
    exact ⟨by rw [u3 (by decide) (by decide)]; decide, rfl⟩
  · have u2 : ¬ r1 = -1 := u2
    rw [if_neg u2] at e2
    obtain ⟨g3, b3, e2⟩ := ob1_some e2
    obtain ⟨r4, g4, b4, e2⟩ := ob2_some e2
    have nmr := mp_names (q := q) b3 hp (by omega)
    have f3 := w_f_X9_names _ _ _ _ _ _ b3
    have m := std_mb s hq
    have sy := u3 _ (r4, g4) b4 (Fr_trans (Fr_mono (by decide) f3) (Fr_sA (by decide) (Fr_refl _ _))) (fun k _ hk => ?_)
    · obtain ⟨v1, v2, v3, v4⟩ := sy
      have v2 : r4.toInt = 0 ∨ r4.toInt = 1 := v2 rfl
      have v4 : z.1.toInt = hldI r4.toInt 10 := v4 (by decide)
      rcases v2 with v | v
      · have c : lg_cmp r4 0 ≤ 0 := (lg_cmp_le _ _).mpr (Int64.le_iff_toInt_le.mpr (by omega))
        rw [if_pos c, if_pos (Or.inl rfl)] at e2
        cases e2
        left
        rw [v] at v4
        exact ⟨gi_eq v4, rfl⟩
      · have c : ¬ lg_cmp r4 0 ≤ 0 := fun c => by have := q_le c; omega
        rw [if_neg c, if_pos (Or.inr rfl)] at e2
        cases e2
        right
        rw [v] at v4
        refine ⟨gi_ne ?_, rfl⟩
        rw [v4]
        decide
    · have k6 : k < 6 := hk (by decide)
      show eA h1 6 1 k = upd (eA g3 0 39) 2 f k ∧ MB (eA h1 6 1 k).toInt
      rw [nm k k6, nmr]
      have la := LK_agree (a := eA h 6 1) (b := eA g 0 39) (p := p) (w := gc (eA g 0 0) 30 q 0) (f := gc (eA g 0 0) 30 q 1) (l := gc (eA g 0 0) 30 q 2) (r := gc (eA g 0 0) 30 q 3) (d := eA g 0 0 121) (by unfold MB; omega) m.1 m.2.1 m.2.2.1 m.2.2.2.1 m.2.2.2.2.2.2 k6
      unfold upd
      by_cases c2 : k = 2
      · rw [if_pos c2, if_pos c2]; exact ⟨rfl, hf⟩
      · rw [if_neg c2, if_neg c2]; exact la
/-! is she true -/
theorem j_isTrue {h g : HS} {p : Int32} {z w : Int32 × HS} {q : Nat} (s : STD h g) (hp : p.toInt = (q : Int)) (hq : (q : Int) < (eA g 0 0 1).toInt) (e1 : f_X1_isTrue h p = some z) (e2 : f_X9_isTrue g p = some w) : z.1 = w.1 ∧ (w.1 = 0 ∨ w.1 = 1) := by
  obtain ⟨n1, n0, n4⟩ := std_n s
  have s3 : eI h 1 3 = eA g 0 0 1 := s.1.1.1
  have d7 : eI h 1 7 = eA g 0 0 121 := s.1.1.2.2.2.2.1
  unfold f_X1_isTrue f_X1_isTrue_20 at e1
  obtain ⟨h1, a1, e1⟩ := ob1_some e1
  obtain ⟨r2, h2, a2, e1⟩ := ob2_some e1
  have lk := cp_lookAt (q := q) a1 hp (by rw [s3]; exact hq) (by rw [s3]; exact n1.2)
  have f1 := w_f_X1_lookAt _ _ _ a1
  unfold f_X9_isTrue at e2
  obtain ⟨r3, g3, b3, e2⟩ := ob2_some e2
  obtain ⟨rfl, rfl⟩ := pr_inj (mp_ofGoose (q := q) (k := 2) b3 hp rfl (by omega) (by decide))
  obtain ⟨r4, g4, b4, e2⟩ := ob2_some e2
  obtain ⟨rfl, rfl⟩ := pr_inj (mp_ofGoose (q := q) (k := 3) b4 hp rfl (by omega) (by decide))
  obtain ⟨r5, g5, b5, e2⟩ := ob2_some e2
  obtain ⟨rfl, rfl⟩ := pr_inj (mp_ofGoose (q := q) (k := 1) b5 hp rfl (by omega) (by decide))
  obtain ⟨r6, g6, b6, e2⟩ := ob2_some e2
  obtain ⟨-, e2⟩ := ob_if e2
  cases e2
  have b0 := sr_g s.1 hq (show 0 < 9 by decide)
  have b1 := sr_g s.1 hq (show 1 < 9 by decide)
  have b2 := sr_g s.1 hq (show 2 < 9 by decide)
  have b3 := sr_g s.1 hq (show 3 < 9 by decide)
  rw [b0, b1, b2, b3, d7] at lk
  have c := j_code s hp hq rfl rfl (std_mb s hq).2.1 (Fr_mono (by decide) f1) (fun k k6 => by
    rw [lk]
    by_cases c2 : k = 2
    · subst c2; rfl
    · rw [ud_ne c2]) a2 b6
  rcases c with ⟨c1, c2⟩ | ⟨c1, c2⟩
  · have c1 : r2 = 0 := c1
    rw [if_pos c1, if_pos (Or.inl rfl)] at e1
    cases e1
    exact ⟨c2.symm, Or.inl c2⟩
  · have c1 : ¬ r2 = 0 := c1
    rw [if_neg c1, if_pos (Or.inr rfl)] at e1
    cases e1
    exact ⟨c2.symm, Or.inr c2⟩
theorem j_trueWith {h g : HS} {p f : Int32} {z w : Int32 × HS} {q : Nat} (s : STD h g) (hp : p.toInt = (q : Int)) (hq : (q : Int) < (eA g 0 0 1).toInt) (hf : MB f.toInt) (e1 : f_X1_isTrueWith h p f = some z) (e2 : f_X9_isTrueBy g p (gc (eA g 0 0) 30 q 2) (gc (eA g 0 0) 30 q 3) f = some w) : z.1 = w.1 ∧ (w.1 = 0 ∨ w.1 = 1) := by
  obtain ⟨n1, n0, n4⟩ := std_n s
  have s3 : eI h 1 3 = eA g 0 0 1 := s.1.1.1
  have d7 : eI h 1 7 = eA g 0 0 121 := s.1.1.2.2.2.2.1
  unfold f_X1_isTrueWith f_X1_isTrueWith_27 at e1
  obtain ⟨h1, a1, e1⟩ := ob1_some e1
  obtain ⟨r2, h2, a2, e1⟩ := ob2_some e1
  have lk := cp_lookAt (q := q) a1 hp (by rw [s3]; exact hq) (by rw [s3]; exact n1.2)
  have f1 := w_f_X1_lookAt _ _ _ a1
  have b0 := sr_g s.1 hq (show 0 < 9 by decide)
  have b1 := sr_g s.1 hq (show 1 < 9 by decide)
  have b2 := sr_g s.1 hq (show 2 < 9 by decide)
  have b3 := sr_g s.1 hq (show 3 < 9 by decide)
  rw [b0, b1, b2, b3, d7] at lk
  have c := j_code s hp hq rfl rfl hf (Fr_sA (by decide) (Fr_mono (by decide) f1)) (fun k k6 => by
    show upd (eA h1 6 1) 2 f k = _
    rw [lk]) a2 e2
  rcases c with ⟨c1, c2⟩ | ⟨c1, c2⟩
  · have c1 : r2 = 0 := c1
    rw [if_pos c1, if_pos (Or.inl rfl)] at e1
    cases e1
    exact ⟨c2.symm, Or.inl c2⟩
  · have c1 : ¬ r2 = 0 := c1
    rw [if_neg c1, if_pos (Or.inr rfl)] at e1
    cases e1
    exact ⟨c2.symm, Or.inr c2⟩
/-! within a day -/
def PS (h g : HS) : Prop := STD h g ∧ SFul h (eA g 0 0)
theorem PS_fr {S T : CL} {h h' g g' : HS} (s : PS h g) (f : Fr S h h') (k : Fr T g g') (n1 : ∀ y ∈ KS1, y ∉ S) (n2 : ∀ y ∈ KTC, y ∉ S) (n3 : (1, 0, 0) ∉ T) (n4 : ∀ y ∈ KTM, y ∉ T) : PS h' g' := by
  refine ⟨STD_fr s.1 f k n1 n2 n3 n4, ?_⟩
  have q := s.2
  unfold SFul at *
  rw [k.2.1 0 0 n3, f.2.1 1 2 (n1 _ (by decide)), f.1 1 11 (n1 _ (by decide))]
  exact q
theorem PS_mk {S T : CL} {h h' g g' : HS} (s : PS h g) (r : SRel h' 1 (eA g' 0 0) ∧ SFul h' (eA g' 0 0) ∧ RG (eA g' 0 0)) (e3 : eA g' 0 0 3 = eA g 0 0 3) (f : Fr S h h') (k : Fr T g g') (n2 : ∀ y ∈ KTC, y ∉ S) (n4 : ∀ y ∈ KTM, y ∉ T) : PS h' g' := by
  refine ⟨⟨r.1, r.2.2, ?_⟩, r.2.1⟩
  rw [e3]
  exact TXS_fr s.1.2.2 f k n2 n4
theorem j_draw {h g : HS} {z w : Int32 × HS} (s : PS h g) (e1 : f_X4_draw h = some z) (e2 : f_X9_draw g = some w) : z.1 = w.1 ∧ PS z.2 w.2 ∧ (∀ k : Nat, ¬ k = 122 → eA w.2 0 0 k = eA g 0 0 k) ∧ eA z.2 6 1 = eA h 6 1 := by
  obtain ⟨n1, n0, n4⟩ := std_n s.1
  have s8 : eI h 1 8 = eA g 0 0 122 := s.1.1.1.2.2.2.2.2.1
  unfold f_X4_draw at e1
  unfold f_X9_draw at e2
  rw [s8] at e1
  cases e1
  cases e2
  refine ⟨rfl, ?_, fun k hk => ud_ne hk, rfl⟩
  have u : ∀ v : Int32, ∀ k : Nat, ¬ k = 122 → upd (eA g 0 0) 122 v k = eA g 0 0 k := fun v k hk => ud_ne hk
  have sc := s.1.1.1
  generalize hv : eA g 0 0 122 * 157 + 61 - (eA g 0 0 122 * 157 + 61) / 30071 * 30071 = v
  have E := SR_edit (h := h) (h' := sI h 1 8 v) (B := upd (eA g 0 0) 122 v) s.1.1 s.2 n1.2 (fun k hk => u v k (by omega)) (fun k hk => u v k (by omega)) rfl rfl rfl rfl rfl (sc.2.2.1.trans (u v 120 (by omega)).symm) rfl (sc.2.2.2.2.1.trans (u v 121 (by omega)).symm) ud_eq.symm rfl rfl rfl (GEE_out s.1.1.2.1 n1.2 (by decide) (by decide)) n0.2
  refine PS_mk (S := [(0, 1, 8)]) (T := [(1, 0, 0)]) s ⟨E.1, E.2, ?_⟩ (u v 3 (by decide)) (Fr_sI (by decide) (Fr_refl _ _)) (Fr_sA (by decide) (Fr_refl _ _)) (by decide) (by decide)
  exact RG_edit (q := 10) s.1.2.1 (fun k hk => u v k (by omega)) (fun k hk => u v k (by omega)) (fun p k hk hp hp2 => u v _ (by omega)) (fun hq => by omega) (by show 0 ≤ (upd (eA g 0 0) 122 v 120).toInt; rw [u v 120 (by omega)]; exact s.1.2.1.2.2.1.1) (by show 0 ≤ (upd (eA g 0 0) 122 v 121).toInt ∧ (upd (eA g 0 0) 122 v 121).toInt ≤ 999; rw [u v 121 (by omega)]; exact s.1.2.1.2.2.1.2.1)
theorem j_settle {h h' g g' : HS} {p v : Int32} {q : Nat} (s : PS h g) (hp : p.toInt = (q : Int)) (hq : (q : Int) < (eA g 0 0 1).toInt) (v2 : 2 ≤ v.toInt) (v5 : v.toInt ≤ 5) (to_ : v.toInt ≤ 4 → 0 ≤ (gc (eA g 0 0) 30 q 5).toInt ∧ (gc (eA g 0 0) 30 q 5).toInt < (eA g 0 0 0).toInt) (e1 : f_X4_settle h p v = some h') (e2 : f_X9_comesThere_50 g p v = some g') : PS h' g' ∧ (∀ k : Nat, (∀ c : Nat, c < 9 → ¬ k = 30 + (9 * q + c)) → eA g' 0 0 k = eA g 0 0 k) := by
  obtain ⟨n1, n0, n4⟩ := std_n s.1
  have s3 : eI h 1 3 = eA g 0 0 1 := s.1.1.1.1
  have s5 : eI h 1 5 = eA g 0 0 120 := s.1.1.1.2.2.1
  have s7 : eI h 1 7 = eA g 0 0 121 := s.1.1.1.2.2.2.2.1
  have dd : 0 ≤ (eA g 0 0 121).toInt ∧ (eA g 0 0 121).toInt ≤ 999 := s.1.2.1.2.2.1.2.1
  unfold f_X4_settle at e1
  obtain ⟨h1, a1, e1⟩ := ob1_some e1
  have E1 := cp_setGoose (q := q) (k := 4) a1 hp rfl (by rw [s3]; exact hq) (by rw [s3]; exact n1.2) (by decide)
  subst E1
  obtain ⟨h2, a2, e1⟩ := ob1_some e1
  have E2 := cp_setGoose (q := q) (k := 7) a2 hp rfl (by show (q : Int) < (eI h 1 3).toInt; rw [s3]; exact hq) (by show (eI h 1 3).toInt ≤ 10; rw [s3]; exact n1.2) (by decide)
  subst E2
  cases e1
  unfold f_X9_comesThere_50 at e2
  obtain ⟨g1, b1, e2⟩ := ob1_some e2
  have F1 := mp_puts (q := q) (k := 4) b1 hp rfl (by omega) (by decide)
  subst F1
  obtain ⟨g2, b2, e2⟩ := ob1_some e2
  have F2 := mp_puts (q := q) (k := 7) b2 hp rfl (by omega) (by decide)
  subst F2
  cases e2
  obtain ⟨X, hX⟩ : ∃ X : Nat → Int32, X = upd (eA g 0 0) (30 + (9 * q + 4)) v := ⟨_, rfl⟩
  have X121 : X 121 = eA g 0 0 121 := by rw [hX]; exact ud_ne (by omega)
  have R := FIN (q := q) (h' := sA (sA h 1 0 (upd (eA h 1 0) (9 * q + 4) v)) 1 0 (upd (upd (eA h 1 0) (9 * q + 4) v) (9 * q + 7) (eI h 1 7))) (B := upd X (30 + (9 * q + 7)) (X 121)) s.1.1 s.1.2.1 s.2 hq (fun k hc _ => by rw [ud_ne (hc 7 (by decide)), hX, ud_ne (hc 4 (by decide))]) (Fr_sA (by decide) (Fr_sA (by decide) (Fr_refl _ _))) (by
    rw [X121, ← s7, hX]
    exact GEE_upd (GEE_upd s.1.1.2.1 (by omega)) (by omega)) (by
    rw [ud_ne (by omega), hX, ud_ne (by omega)]
    exact s5) (by
    rw [ud_ne (by omega), hX, ud_ne (by omega)]
    exact s.1.2.1.2.2.1.1) (fun gr5 => by
    unfold GR at gr5 ⊢
    rw [X121, hX]
    simp (disch := omega) only [gc_upd_ne, gc_upd_eq]
    omega)
  have U : ∀ k : Nat, (∀ c : Nat, c < 9 → ¬ k = 30 + (9 * q + c)) → upd X (30 + (9 * q + 7)) (X 121) k = eA g 0 0 k := fun k hc => by rw [ud_ne (hc 7 (by decide)), hX, ud_ne (hc 4 (by decide))]
  rw [hX] at R U
  exact ⟨PS_mk (S := [(1, 1, 0)]) (T := [(1, 0, 0)]) s R (U 3 (fun c hc => by omega)) (Fr_sA (by decide) (Fr_sA (by decide) (Fr_refl _ _))) (Fr_sA (by decide) (Fr_sA (by decide) (Fr_refl _ _))) (by decide) (by decide), U⟩
theorem fate_gr {A : Nat → Int32} (rg : RG A) {q : Nat} (hq : (q : Int) < (A 1).toInt) (f : gc A 30 q 4 = 1) : 0 ≤ (gc A 30 q 5).toInt ∧ (gc A 30 q 5).toInt < (A 0).toInt := by
  have gr := rg.2.2.1.2.2 q hq
  have y1 : (1 : Int32).toInt = 1 := rfl
  unfold GR at gr
  rw [f] at gr
  omega
/-- she comes to the market -/
theorem j_comes {h h7 h8 g g' : HS} {p r7 : Int32} {q : Nat} (s : PS h g) (hp : p.toInt = (q : Int)) (hq : (q : Int) < (eA g 0 0 1).toInt) (fa : gc (eA g 0 0) 30 q 4 = 1) (e1 : f_X8_fateAtMarket h p = some (r7, h7)) (e3 : f_X4_settle h7 p r7 = some h8) (e2 : f_X9_comesThere g p = some g') : PS h8 g' ∧ (∀ k : Nat, ¬ k = 122 → (∀ c : Nat, c < 9 → ¬ k = 30 + (9 * q + c)) → eA g' 0 0 k = eA g 0 0 k) := by
  obtain ⟨n1, n0, n4⟩ := std_n s.1
  have tt := fate_gr s.1.2.1 hq fa
  obtain ⟨m, hm⟩ : ∃ m : Nat, (gc (eA g 0 0) 30 q 5).toInt = (m : Int) := ⟨(gc (eA g 0 0) 30 q 5).toInt.toNat, by omega⟩
  have m0 : (m : Int) < (eA g 0 0 0).toInt := by omega
  unfold f_X8_fateAtMarket f_X8_fateAtMarket_78 at e1
  obtain ⟨h1, a1, e1⟩ := ob1_some e1
  have nt := cp_lookTrav s.1 a1 hp hq hm m0
  have f1 := w_f_X1_lookAtTraveller _ _ _ a1
  have s1 : PS h1 g := PS_fr s f1 (Fr_refl [] g) (by decide) (by decide) (by decide) (by decide)
  obtain ⟨r2, h2, a2, e1⟩ := ob2_some e1
  unfold f_X9_comesThere f_X9_comesThere_49 at e2
  obtain ⟨d1, g1, b1, e2⟩ := ob2_some e2
  obtain ⟨i1, i2, i3, i4⟩ := j_draw s1 a2 b1
  have i1 : r2 = d1 := i1
  have i2 : PS h2 g1 := i2
  have i3 : ∀ k : Nat, ¬ k = 122 → eA g1 0 0 k = eA g 0 0 k := i3
  have i4 : eA h2 6 1 = eA h1 6 1 := i4
  obtain ⟨r3, h3, a3, e1⟩ := ob2_some e1
  obtain ⟨d2, g2, b2, e2⟩ := ob2_some e2
  have G1 : ∀ k : Nat, k < 9 → gc (eA g1 0 0) 30 q k = gc (eA g 0 0) 30 q k := fun k hk => i3 _ (by omega)
  have nt1 : NMT (eA h2 6 1) p (eA g1 0 0) q m := by
    unfold NMT at *
    rw [i4, G1 0 (by decide), G1 1 (by decide), G1 2 (by decide), G1 3 (by decide), G1 5 (by decide), G1 6 (by decide), i3 (10 + (3 * m + 1)) (by omega), i3 (10 + (3 * m + 2)) (by omega)]
    exact nt
  have jm := j_market i2.1 (Or.inl rfl) hp (by rw [i3 1 (by decide)]; exact hq) (by rw [G1 5 (by decide)]; exact hm) (by rw [i3 0 (by decide)]; exact m0) nt1 a3 b2
  have jm : r3 = d2 := jm
  have f3 := w_f_X1_rule _ _ _ a3
  have k2 := w_f_X9_marketOf _ _ _ _ b2
  have f3 : Fr S_X1_rule h2 h3 := f3
  have k2 : Fr S_X9_marketOf g1 g2 := k2
  have s3 : PS h3 g2 := PS_fr i2 f3 k2 (by decide) (by decide) (by decide) (by decide)
  have g20 : eA g2 0 0 = eA g1 0 0 := k2.2.1 0 0 (by decide)
  have q2 : (q : Int) < (eA g2 0 0 1).toInt := by rw [g20, i3 1 (by decide)]; exact hq
  have c13 : eI h3 1 3 = eA g2 0 0 1 := s3.1.1.1.1
  have n12 : (eI h3 1 3).toInt ≤ 10 := by rw [c13]; exact s3.1.2.1.1.1.2
  -- how it ends, from a state that differs from the first in the draws alone
  have fin : ∀ (hx gx : HS) (v : Int32), PS hx gx → (∀ k : Nat, ¬ k = 122 → eA gx 0 0 k = eA g 0 0 k) → 2 ≤ v.toInt → v.toInt ≤ 5 → f_X4_settle hx p v = some h8 → f_X9_comesThere_50 gx p v = some g' → PS h8 g' ∧ (∀ k : Nat, ¬ k = 122 → (∀ c : Nat, c < 9 → ¬ k = 30 + (9 * q + c)) → eA g' 0 0 k = eA g 0 0 k) := by
    intro hx gx v sx ex v2 v5 y1 y2
    have g5 : gc (eA gx 0 0) 30 q 5 = gc (eA g 0 0) 30 q 5 := ex _ (by omega)
    obtain ⟨w1, w2⟩ := j_settle sx hp (by rw [ex 1 (by decide)]; exact hq) v2 v5 (fun _ => by rw [g5, ex 0 (by decide)]; exact tt) y1 y2
    exact ⟨w1, fun k k1 k2 => (w2 k k2).trans (ex k k1)⟩
  have ex2 : ∀ k : Nat, ¬ k = 122 → eA g2 0 0 k = eA g 0 0 k := fun k hk => by rw [g20]; exact i3 k hk
  rw [i1, jm] at e1
  by_cases c : d2 ≤ d1
  · rw [if_pos c] at e2
    rw [if_neg (fun y => by have := gi_of_lt y; have := gi_of_le c; omega)] at e1
    obtain ⟨rfl, rfl⟩ := Prod.mk.inj (Option.some.inj e1)
    exact fin h3 g2 2 s3 ex2 (by decide) (by decide) e3 e2
  · rw [if_neg c] at e2
    rw [if_pos (gi_lt (gi_of_nle c))] at e1
    obtain ⟨r5, h5, a5, e1⟩ := ob2_some e1
    obtain ⟨rfl, rfl⟩ := pr_inj (cp_ofGoose (q := q) (k := 2) a5 hp rfl (by rw [c13]; exact q2) n12 (by decide))
    obtain ⟨d4, g4, b4, e2⟩ := ob2_some e2
    obtain ⟨rfl, rfl⟩ := pr_inj (mp_ofGoose (q := q) (k := 2) b4 hp rfl (by omega) (by decide))
    rw [sr_g s3.1.1 q2 (show 2 < 9 by decide)] at e1
    by_cases c2 : gc (eA g2 0 0) 30 q 2 = -1
    · rw [if_pos c2] at e1 e2
      obtain ⟨rfl, rfl⟩ := Prod.mk.inj (Option.some.inj e1)
      exact fin h3 g2 3 s3 ex2 (by decide) (by decide) e3 e2
    · rw [if_neg c2] at e1 e2
      obtain ⟨r6, h6, a6, e1⟩ := ob2_some e1
      obtain ⟨d6, g6, b6, e2⟩ := ob2_some e2
      obtain ⟨j1, j2, j3, j4⟩ := j_draw s3 a6 b6
      have j1 : r6 = d6 := j1
      have j2 : PS h6 g6 := j2
      have j3 : ∀ k : Nat, ¬ k = 122 → eA g6 0 0 k = eA g2 0 0 k := j3
      have j4 : eA h6 6 1 = eA h3 6 1 := j4
      have ex6 : ∀ k : Nat, ¬ k = 122 → eA g6 0 0 k = eA g 0 0 k := fun k hk => (j3 k hk).trans (ex2 k hk)
      obtain ⟨r9, h9, a9, e1⟩ := ob2_some e1
      obtain ⟨d9, g9, b9, e2⟩ := ob2_some e2
      have G6 : ∀ k : Nat, k < 9 → gc (eA g6 0 0) 30 q k = gc (eA g 0 0) 30 q k := fun k hk => ex6 _ (by omega)
      have nt6 : NMT (eA h6 6 1) p (eA g6 0 0) q m := by
        unfold NMT at *
        rw [j4, f3.2.1 6 1 (by decide), i4, G6 0 (by decide), G6 1 (by decide), G6 2 (by decide), G6 3 (by decide), G6 5 (by decide), G6 6 (by decide), ex6 (10 + (3 * m + 1)) (by omega), ex6 (10 + (3 * m + 2)) (by omega)]
        exact nt
      have jm2 := j_market j2.1 (Or.inr rfl) hp (by rw [ex6 1 (by decide)]; exact hq) (by rw [G6 5 (by decide)]; exact hm) (by rw [ex6 0 (by decide)]; exact m0) nt6 a9 b9
      have jm2 : r9 = d9 := jm2
      have f9 := w_f_X1_rule _ _ _ a9
      have k9 := w_f_X9_marketOf _ _ _ _ b9
      have f9 : Fr S_X1_rule h6 h9 := f9
      have k9 : Fr S_X9_marketOf g6 g9 := k9
      have s9 : PS h9 g9 := PS_fr j2 f9 k9 (by decide) (by decide) (by decide) (by decide)
      have g90 : eA g9 0 0 = eA g6 0 0 := k9.2.1 0 0 (by decide)
      have ex9 : ∀ k : Nat, ¬ k = 122 → eA g9 0 0 k = eA g 0 0 k := fun k hk => by rw [g90]; exact ex6 k hk
      rw [j1, jm2] at e1
      by_cases c9 : d9 ≤ d6
      · rw [if_pos c9] at e1 e2
        obtain ⟨rfl, rfl⟩ := Prod.mk.inj (Option.some.inj e1)
        exact fin h9 g9 3 s9 ex9 (by decide) (by decide) e3 e2
      · rw [if_neg c9] at e1 e2
        obtain ⟨rfl, rfl⟩ := Prod.mk.inj (Option.some.inj e1)
        exact fin h9 g9 4 s9 ex9 (by decide) (by decide) e3 e2
/-! hunger -/
theorem j_count {h g : HS} {f : Int32} (sr : SRel h 1 (eA g 0 0)) (n1 : 0 ≤ (eA g 0 0 1).toInt ∧ (eA g 0 0 1).toInt ≤ 10) : ∀ (n m : Nat) (x2 x3 : Int32) (z w : Int32 × HS), f_X4_countFate_4 n h f x2 x3 = some z → f_X9_geeseOf_4 m g f x2 x3 = some w → 0 ≤ x3.toInt → 0 ≤ x2.toInt → x2.toInt ≤ x3.toInt → z.1 = w.1 ∧ z.2 = h ∧ w.2 = g ∧ (0 ≤ z.1.toInt ∧ (z.1.toInt ≤ 10 ∨ z.1.toInt ≤ x3.toInt)) := by
  have y1 : (1 : Int32).toInt = 1 := rfl
  have s3 : eI h 1 3 = eA g 0 0 1 := sr.1.1
  intro n
  induction n with
  | zero => intro m x2 x3 z w e; cases e
  | succ n ih =>
    intro m x2 x3 z w e e2 h3 h2 h23
    cases m with
    | zero => cases e2
    | succ m =>
      rw [f_X4_countFate_4_s, s3] at e
      rw [f_X9_geeseOf_4_s] at e2
      unfold f_X4_countFate_25 at e
      unfold f_X9_geeseOf_30 at e2
      by_cases c : eA g 0 0 1 ≤ x3
      · rw [if_pos c] at e e2
        cases e
        cases e2
        exact ⟨rfl, rfl, rfl, h2, Or.inr h23⟩
      · rw [if_neg c] at e e2
        have d := gi_of_nle c
        obtain ⟨r2, h4, a2, e⟩ := ob2_some e
        obtain ⟨rfl, rfl⟩ := pr_inj (cp_ofGoose (q := x3.toInt.toNat) (k := 4) a2 (by omega) rfl (by rw [s3]; omega) (by rw [s3]; exact n1.2) (by decide))
        obtain ⟨r3, g3, b2, e2⟩ := ob2_some e2
        obtain ⟨rfl, rfl⟩ := pr_inj (mp_ofGoose (q := x3.toInt.toNat) (k := 4) b2 (by omega) rfl (by omega) (by decide))
        rw [sr_g sr (show ((x3.toInt.toNat : Nat) : Int) < (eA g 0 0 1).toInt by omega) (show 4 < 9 by decide)] at e
        have a3 := fb_addI (x := x3) (y := 1) (by omega) (by omega)
        have a1 := fb_addI (x := x2) (y := 1) (by omega) (by omega)
        by_cases cf : gc (eA g 0 0) 30 x3.toInt.toNat 4 = f
        · rw [if_pos cf] at e e2
          obtain ⟨k1, k2, k3, k4⟩ := ih m (x2 + 1) (x3 + 1) z w e e2 (by omega) (by omega) (by omega)
          exact ⟨k1, k2, k3, by omega⟩
        · rw [if_neg cf] at e e2
          rw [Int32.add_zero] at e2
          obtain ⟨k1, k2, k3, k4⟩ := ih m x2 (x3 + 1) z w e e2 (by omega) (by omega) (by omega)
          exact ⟨k1, k2, k3, by omega⟩
theorem PS_grain {h g : HS} {v : Int32} (s : PS h g) (v0 : 0 ≤ v.toInt) : PS (sI h 1 5 v) (sA g 0 0 (upd (eA g 0 0) 120 v)) := by
  obtain ⟨n1, n0, n4⟩ := std_n s.1
  have u : ∀ k : Nat, ¬ k = 120 → upd (eA g 0 0) 120 v k = eA g 0 0 k := fun k hk => ud_ne hk
  have sc := s.1.1.1
  have E := SR_edit (h := h) (h' := sI h 1 5 v) (B := upd (eA g 0 0) 120 v) s.1.1 s.2 n1.2 (fun k hk => u k (by omega)) (fun k hk => u k (by omega)) rfl rfl rfl rfl rfl ud_eq.symm rfl (sc.2.2.2.2.1.trans (u 121 (by omega)).symm) (sc.2.2.2.2.2.1.trans (u 122 (by omega)).symm) rfl rfl rfl (GEE_out s.1.1.2.1 n1.2 (by decide) (by decide)) n0.2
  refine PS_mk (S := [(0, 1, 5)]) (T := [(1, 0, 0)]) s ⟨E.1, E.2, ?_⟩ (u 3 (by decide)) (Fr_sI (by decide) (Fr_refl _ _)) (Fr_sA (by decide) (Fr_refl _ _)) (by decide) (by decide)
  exact RG_edit (q := 10) s.1.2.1 (fun k hk => u k (by omega)) (fun k hk => u k (by omega)) (fun p k hk hp hp2 => u _ (by omega)) (fun hq => by omega) (by show 0 ≤ (upd (eA g 0 0) 120 v 120).toInt; rw [ud_eq]; exact v0) (by show 0 ≤ (upd (eA g 0 0) 120 v 121).toInt ∧ (upd (eA g 0 0) 120 v 121).toInt ≤ 999; rw [u 121 (by omega)]; exact s.1.2.1.2.2.1.2.1)
theorem j_eatloop {h h' g g' : HS} (s : PS h g) : ∀ (n m : Nat) (x : Int32), f_X4_eatDaily_31 n (sI h 1 5 0) x = some h' → f_X9_hungers_38 m g x = some g' → 0 ≤ x.toInt → PS h' g' ∧ eA g' 0 0 121 = eA g 0 0 121 := by
  have y0 : (0 : Int32).toInt = 0 := rfl
  have y1 : (1 : Int32).toInt = 1 := rfl
  have y5 : (5 : Int32).toInt = 5 := rfl
  obtain ⟨n1, n0, n4⟩ := std_n s.1
  have sr := s.1.1
  have s3 : eI h 1 3 = eA g 0 0 1 := sr.1.1
  have s7 : eI h 1 7 = eA g 0 0 121 := sr.1.2.2.2.2.1
  have dd : 0 ≤ (eA g 0 0 121).toInt ∧ (eA g 0 0 121).toInt ≤ 999 := s.1.2.1.2.2.1.2.1
  have u100 : ∀ (v x : Int32) (gg : HS), f_X9_hungers_100 g x v 120 = some gg → (if eA g 0 0 1 ≤ x then some (sA g 0 0 (upd (eA g 0 0) 120 v)) else (ob1 (f_X9_puts (sA g 0 0 (upd (eA g 0 0) 120 v)) x 4 5) (fun h_12 => (ob1 (f_X9_puts h_12 x 7 ((eA h_12 0 0) 121)) (fun h_13 => some h_13))))) = some gg := by
    intro v x gg e
    unfold f_X9_hungers_100 f_X9_hungers_132 at e
    obtain ⟨-, e⟩ := ob_if e
    have i : (120 : Int32).toNatClampNeg = 120 := rfl
    rw [i, ud_ne (show ¬ (1 : Nat) = 120 by decide)] at e
    exact e
  intro n
  induction n with
  | zero => intro m x e; cases e
  | succ n ih =>
    intro m x e e2 hx
    cases m with
    | zero => cases e2
    | succ m =>
      rw [f_X4_eatDaily_31_s] at e
      rw [f_X9_hungers_38_s] at e2
      have e : (if eA g 0 0 1 ≤ x then some (sI h 1 5 0) else (ob2 (f_X4_isFree (sI h 1 5 0) x) (fun r_4 h_4 => (if r_4 = 0 then (f_X4_eatDaily_31 n h_4 (x + 1)) else (ob1 (f_X4_settle h_4 x 5) (fun h_6 => (ob2 (f_X4_ofGoose h_6 x 0) (fun r_7 h_7 => (some (sI h_7 1 5 r_7)))))))))) = some h' := by
        rw [← s3]; exact e
      unfold f_X9_hungers_68 f_X9_hungers_74 at e2
      by_cases c : eA g 0 0 1 ≤ x
      · rw [if_pos c] at e e2
        rw [if_pos c] at e2
        have k := u100 0 x g' e2
        rw [if_pos c] at k
        cases e
        cases k
        refine ⟨PS_grain s (by decide), ?_⟩
        show upd (eA g 0 0) 120 0 121 = eA g 0 0 121
        exact ud_ne (by decide)
      · rw [if_neg c] at e e2
        have d := gi_of_nle c
        have a3 := fb_addI (x := x) (y := 1) (by omega) (by omega)
        have xq : x.toInt = ((x.toInt.toNat : Nat) : Int) := by omega
        have qx : ((x.toInt.toNat : Nat) : Int) < (eA g 0 0 1).toInt := by omega
        obtain ⟨r4, h4, a4, e⟩ := ob2_some e
        obtain ⟨k1, k2⟩ := cp_isFree a4 (by show (eI h 1 3).toInt ≤ 10; rw [s3]; exact n1.2)
        have k1 : h4 = sI h 1 5 0 := k1
        subst k1
        have k2 : (r4 = 1 ∧ ∃ q : Nat, x.toInt = (q : Int) ∧ (q : Int) < (eI h 1 3).toInt ∧ eA h 1 0 (9 * q + 4) = 0 ∧ eA h 1 0 (9 * q + 8) = 0) ∨ (r4 = 0 ∧ ∀ q : Nat, x.toInt = (q : Int) → (q : Int) < (eI h 1 3).toInt → ¬ (eA h 1 0 (9 * q + 4) = 0 ∧ eA h 1 0 (9 * q + 8) = 0)) := k2
        rw [s3] at k2
        have c4 := sr_g sr qx (show 4 < 9 by decide)
        have c8 := sr_g sr qx (show 8 < 9 by decide)
        have c0 := sr_g sr qx (show 0 < 9 by decide)
        have gr := s.1.2.1.2.2.1.2.2 _ qx
        obtain ⟨d4, g4, b4, e2⟩ := ob2_some e2
        obtain ⟨rfl, rfl⟩ := pr_inj (mp_ofGoose (q := x.toInt.toNat) (k := 4) b4 xq rfl (by omega) (by decide))
        by_cases f0 : gc (eA g 0 0) 30 x.toInt.toNat 4 = 0
        · rw [if_pos f0] at e2
          obtain ⟨d6, g6, b6, e2⟩ := ob2_some e2
          obtain ⟨rfl, rfl⟩ := pr_inj (mp_ofGoose (q := x.toInt.toNat) (k := 8) b6 xq rfl (by omega) (by decide))
          by_cases f8 : gc (eA g 0 0) 30 x.toInt.toNat 8 = 1
          · rw [if_pos f8] at e2
            rcases k2 with ⟨-, q, q1, -, -, q4⟩ | ⟨k2, -⟩
            · rw [show q = x.toInt.toNat by omega, c8, f8] at q4
              exact absurd q4 (by decide)
            · rw [if_pos k2] at e
              exact ih m (x + 1) e e2 (by omega)
          · rw [if_neg f8] at e2
            have d8 := gi_of_ne f8
            have z8 : gc (eA g 0 0) 30 x.toInt.toNat 8 = 0 := by unfold GR at gr; exact gi_eq (by omega)
            rcases k2 with ⟨k2, -⟩ | ⟨-, k3⟩
            rotate_left
            · exact absurd ⟨c4.trans f0, c8.trans z8⟩ (k3 _ xq qx)
            rw [if_neg (by rw [k2]; decide)] at e
            rw [if_neg c] at e2
            obtain ⟨h6, a6, e⟩ := ob1_some e
            unfold f_X4_settle at a6
            obtain ⟨h7, a7, a6⟩ := ob1_some a6
            have E7 := cp_setGoose (q := x.toInt.toNat) (k := 4) a7 xq rfl (by show _ < (eI h 1 3).toInt; rw [s3]; exact qx) (by show (eI h 1 3).toInt ≤ 10; rw [s3]; exact n1.2) (by decide)
            subst E7
            obtain ⟨h8, a8, a6⟩ := ob1_some a6
            have E8 := cp_setGoose (q := x.toInt.toNat) (k := 7) a8 xq rfl (by show _ < (eI h 1 3).toInt; rw [s3]; exact qx) (by show (eI h 1 3).toInt ≤ 10; rw [s3]; exact n1.2) (by decide)
            subst E8
            cases a6
            obtain ⟨r9, h9, a9, e⟩ := ob2_some e
            obtain ⟨rfl, rfl⟩ := pr_inj (cp_ofGoose (q := x.toInt.toNat) (k := 0) a9 xq rfl (by show _ < (eI h 1 3).toInt; rw [s3]; exact qx) (by show (eI h 1 3).toInt ≤ 10; rw [s3]; exact n1.2) (by decide))
            cases e
            obtain ⟨d9, g9, b9, e2⟩ := ob2_some e2
            obtain ⟨rfl, rfl⟩ := pr_inj (mp_ofGoose (q := x.toInt.toNat) (k := 0) b9 xq rfl (by omega) (by decide))
            have k := u100 _ x g' e2
            rw [if_neg c] at k
            obtain ⟨g12, b12, k⟩ := ob1_some k
            have F12 := mp_puts (q := x.toInt.toNat) (k := 4) b12 xq rfl (by omega) (by decide)
            subst F12
            obtain ⟨g13, b13, k⟩ := ob1_some k
            have F13 := mp_puts (q := x.toInt.toNat) (k := 7) b13 xq rfl (by omega) (by decide)
            subst F13
            cases k
            generalize x.toInt.toNat = q at *
            obtain ⟨X, hX⟩ : ∃ X : Nat → Int32, X = upd (upd (eA g 0 0) 120 (gc (eA g 0 0) 30 q 0)) (30 + (9 * q + 4)) 5 := ⟨_, rfl⟩
            have X121 : X 121 = eA g 0 0 121 := by rw [hX, ud_ne (by omega), ud_ne (by omega)]
            have w0 : upd (upd (eA h 1 0) (9 * q + 4) 5) (9 * q + 7) (eI h 1 7) (9 * q + 0) = gc (eA g 0 0) 30 q 0 := by rw [ud_ne (by omega), ud_ne (by omega)]; exact c0
            have U : ∀ k : Nat, (∀ c : Nat, c < 9 → ¬ k = 30 + (9 * q + c)) → ¬ k = 120 → upd X (30 + (9 * q + 7)) (X 121) k = eA g 0 0 k := fun k hc h120 => by rw [ud_ne (hc 7 (by decide)), hX, ud_ne (hc 4 (by decide)), ud_ne h120]
            have R := FIN (q := q) (h' := sI (sA (sA (sI h 1 5 0) 1 0 (upd (eA h 1 0) (9 * q + 4) 5)) 1 0 (upd (upd (eA h 1 0) (9 * q + 4) 5) (9 * q + 7) (eI h 1 7))) 1 5 (upd (upd (eA h 1 0) (9 * q + 4) 5) (9 * q + 7) (eI h 1 7) (9 * q + 0))) (B := upd X (30 + (9 * q + 7)) (X 121)) s.1.1 s.1.2.1 s.2 qx U (Fr_sI (by decide) (Fr_sA (by decide) (Fr_sA (by decide) (Fr_sI (by decide) (Fr_refl _ _))))) (by
              rw [X121, ← s7, hX]
              exact GEE_upd (GEE_upd (GEE_out sr.2.1 n1.2 (by decide) (by decide)) (by omega)) (by omega)) (by
              show upd (upd (eA h 1 0) (9 * q + 4) 5) (9 * q + 7) (eI h 1 7) (9 * q + 0) = upd X (30 + (9 * q + 7)) (X 121) 120
              rw [w0, ud_ne (show ¬ (120 : Nat) = 30 + (9 * q + 7) by omega), hX, ud_ne (show ¬ (120 : Nat) = 30 + (9 * q + 4) by omega), ud_eq]) (by
              rw [ud_ne (by omega), hX, ud_ne (by omega), ud_eq]
              unfold GR at gr
              omega) (fun gr5 => by
              unfold GR at gr5 ⊢
              rw [X121, hX]
              simp (disch := omega) only [gc_upd_ne, gc_upd_eq]
              omega)
            have U3 := U 3 (fun c hc => by omega) (by decide)
            have U121 := U 121 (fun c hc => by omega) (by decide)
            rw [hX] at R U3 U121
            exact ⟨PS_mk (S := [(1, 1, 0), (0, 1, 5)]) (T := [(1, 0, 0)]) s R U3 (Fr_sI (by decide) (Fr_sA (by decide) (Fr_sA (by decide) (Fr_sI (by decide) (Fr_refl _ _))))) (Fr_sA (by decide) (Fr_sA (by decide) (Fr_sA (by decide) (Fr_refl _ _)))) (by decide) (by decide), U121⟩
        · rw [if_neg f0] at e2
          rcases k2 with ⟨-, q, q1, -, q3, -⟩ | ⟨k2, -⟩
          · rw [show q = x.toInt.toNat by omega, c4] at q3
            exact absurd q3 f0
          · rw [if_pos k2] at e
            exact ih m (x + 1) e e2 (by omega)
theorem j_eat {h h' g g' : HS} (s : PS h g) (e1 : f_X4_eatDaily h = some h') (e2 : f_X9_hungers g = some g') : PS h' g' ∧ eA g' 0 0 121 = eA g 0 0 121 := by
  obtain ⟨n1, n0, n4⟩ := std_n s.1
  have sr := s.1.1
  have s5 : eI h 1 5 = eA g 0 0 120 := sr.1.2.2.1
  have s6 : eI h 1 6 = eA g 0 0 2 := sr.1.2.2.2.1
  have m2 := s.1.2.1.1.2.2.2.2.2
  have g0 : 0 ≤ (eA g 0 0 120).toInt := s.1.2.1.2.2.1.1
  unfold f_X4_eatDaily f_X4_dailyNeed at e1
  obtain ⟨r1, h1, a1, e1⟩ := ob2_some e1
  obtain ⟨r0, h0, a0, a1⟩ := ob2_some a1
  obtain ⟨rfl, rfl⟩ := Prod.mk.inj (Option.some.inj a1)
  unfold f_X9_hungers at e2
  obtain ⟨r2, g2, b2, e2⟩ := ob2_some e2
  unfold f_X4_countFate at a0
  unfold f_X9_geeseOf at b2
  obtain ⟨k1, k2, k3, k4⟩ := j_count sr n1 _ _ _ _ _ _ a0 b2 (by decide) (by decide) (by decide)
  have k1 : r0 = r2 := k1
  have k2 : h = h0 := k2.symm
  have k3 : g = g2 := k3.symm
  have k4 : 0 ≤ r0.toInt ∧ (r0.toInt ≤ 10 ∨ r0.toInt ≤ (0 : Int32).toInt) := k4
  have y0 : (0 : Int32).toInt = 0 := rfl
  subst k2
  subst k3
  subst k1
  rw [s5, s6] at e1
  have a := fb_addI (x := eA g 0 0 2) (y := r0) (by omega) (by omega)
  by_cases c : eA g 0 0 120 < eA g 0 0 2 + r0
  · rw [if_pos c] at e1 e2
    exact j_eatloop s _ _ _ e1 e2 (by decide)
  · rw [if_neg c] at e1 e2
    have d := gi_of_nlt c
    have gs := fb_subI (x := eA g 0 0 120) (y := eA g 0 0 2 + r0) (by omega) (by have := fb_rng (eA g 0 0 120); omega)
    cases e1
    cases e2
    refine ⟨PS_grain s (by omega), ?_⟩
    show upd (eA g 0 0) 120 (eA g 0 0 120 - (eA g 0 0 2 + r0)) 121 = eA g 0 0 121
    exact ud_ne (by decide)
/-! a day, and days -/
theorem j_geese {k33 : HS → Int32 → Int32 → Option (Int32 × HS)} {x1 x2 : Int32} {w : Int32 × HS} {h' : HS} : ∀ (n m : Nat) (h g : HS) (x : Int32), f_X8_passOneDay_15 n h x = some h' → f_X9_pass_51 k33 m g x1 x2 x = some w → PS h g → 0 ≤ x.toInt → ∃ g7 : HS, k33 g7 x1 (x2 + 1) = some w ∧ PS h' g7 ∧ eA g7 0 0 121 = eA g 0 0 121 := by
  have y1 : (1 : Int32).toInt = 1 := rfl
  intro n
  induction n with
  | zero => intro m h g x e; cases e
  | succ n ih =>
    intro m h g x e e2 s hx
    cases m with
    | zero => cases e2
    | succ m =>
      obtain ⟨n1, n0, n4⟩ := std_n s.1
      have s3 : eI h 1 3 = eA g 0 0 1 := s.1.1.1.1
      have s7 : eI h 1 7 = eA g 0 0 121 := s.1.1.1.2.2.2.2.1
      rw [f_X8_passOneDay_15_s, s3] at e
      rw [f_X9_pass_51_s] at e2
      unfold f_X8_passOneDay_72 at e
      unfold f_X9_pass_93 at e2
      by_cases c : eA g 0 0 1 ≤ x
      · rw [if_pos c] at e e2
        obtain ⟨h2, a2, e⟩ := ob1_some e
        cases e
        obtain ⟨g7, b7, e2⟩ := ob1_some e2
        obtain ⟨k1, k2⟩ := j_eat s a2 b7
        exact ⟨g7, e2, k1, k2⟩
      · rw [if_neg c] at e e2
        have d := gi_of_nle c
        have a3 := fb_addI (x := x) (y := 1) (by omega) (by omega)
        have xq : x.toInt = ((x.toInt.toNat : Nat) : Int) := by omega
        have qx : ((x.toInt.toNat : Nat) : Int) < (eA g 0 0 1).toInt := by omega
        obtain ⟨r3, h3, a4, e⟩ := ob2_some e
        obtain ⟨rfl, rfl⟩ := pr_inj (cp_ofGoose (q := x.toInt.toNat) (k := 4) a4 xq rfl (by rw [s3]; exact qx) (by rw [s3]; exact n1.2) (by decide))
        obtain ⟨d4, g4, b4, e2⟩ := ob2_some e2
        obtain ⟨rfl, rfl⟩ := pr_inj (mp_ofGoose (q := x.toInt.toNat) (k := 4) b4 xq rfl (by omega) (by decide))
        rw [sr_g s.1.1 qx (show 4 < 9 by decide)] at e
        by_cases c4 : gc (eA g 0 0) 30 x.toInt.toNat 4 = 1
        · rw [if_pos c4] at e e2
          obtain ⟨r5, h5, a5, e⟩ := ob2_some e
          obtain ⟨rfl, rfl⟩ := pr_inj (cp_ofGoose (q := x.toInt.toNat) (k := 6) a5 xq rfl (by rw [s3]; exact qx) (by rw [s3]; exact n1.2) (by decide))
          obtain ⟨d6, g6, b6, e2⟩ := ob2_some e2
          obtain ⟨rfl, rfl⟩ := pr_inj (mp_ofGoose (q := x.toInt.toNat) (k := 6) b6 xq rfl (by omega) (by decide))
          rw [sr_g s.1.1 qx (show 6 < 9 by decide), s7] at e
          by_cases c6 : gc (eA g 0 0) 30 x.toInt.toNat 6 = eA g 0 0 121
          · rw [if_pos c6] at e e2
            obtain ⟨r7, h7, a7, e⟩ := ob2_some e
            obtain ⟨h8, a8, e⟩ := ob1_some e
            obtain ⟨g12, b12, e2⟩ := ob1_some e2
            obtain ⟨k1, k2⟩ := j_comes s xq qx c4 a7 a8 b12
            obtain ⟨g7, v1, v2, v3⟩ := ih m h8 g12 (x + 1) e e2 k1 (by omega)
            exact ⟨g7, v1, v2, v3.trans (k2 121 (by decide) (fun c hc => by omega))⟩
          · rw [if_neg c6] at e e2
            exact ih m h g (x + 1) e e2 s (by omega)
        · rw [if_neg c4] at e e2
          exact ih m h g (x + 1) e e2 s (by omega)
theorem j_days {x1 : Int32} {z w : Int32 × HS} (x99 : x1.toInt ≤ 99) : ∀ (n m : Nat) (h g : HS) (x : Int32), f_X8_pass_37 n h x1 x = some z → f_X9_pass_33 m g x1 x = some w → PS h g → 0 ≤ x.toInt → (eA g 0 0 121).toInt + (x1.toInt - x.toInt) ≤ 999 → z.1 = w.1 ∧ PS z.2 w.2 := by
  have y1 : (1 : Int32).toInt = 1 := rfl
  intro n
  induction n with
  | zero => intro m h g x e; cases e
  | succ n ih =>
    intro m h g x e e2 s hx hd
    cases m with
    | zero => cases e2
    | succ m =>
      obtain ⟨n1, n0, n4⟩ := std_n s.1
      have s7 : eI h 1 7 = eA g 0 0 121 := s.1.1.1.2.2.2.2.1
      have dd : 0 ≤ (eA g 0 0 121).toInt ∧ (eA g 0 0 121).toInt ≤ 999 := s.1.2.1.2.2.1.2.1
      rw [f_X8_pass_37_s] at e
      rw [f_X9_pass_33_s] at e2
      by_cases c : x1 ≤ x
      · rw [if_pos c] at e e2
        cases e
        cases e2
        exact ⟨s7, s⟩
      · rw [if_neg c] at e e2
        have d := gi_of_nle c
        have a3 := fb_addI (x := x) (y := 1) (by omega) (by omega)
        have a4 := fb_addI (x := eA g 0 0 121) (y := 1) (by omega) (by omega)
        obtain ⟨h6, a6, e⟩ := ob1_some e
        unfold f_X8_passOneDay at a6
        rw [s7] at a6
        have u : ∀ k : Nat, ¬ k = 121 → upd (eA g 0 0) 121 (eA g 0 0 121 + 1) k = eA g 0 0 k := fun k hk => ud_ne hk
        have sc := s.1.1.1
        have E := SR_edit (h := h) (h' := sI h 1 7 (eA g 0 0 121 + 1)) (B := upd (eA g 0 0) 121 (eA g 0 0 121 + 1)) s.1.1 s.2 n1.2 (fun k hk => u k (by omega)) (fun k hk => u k (by omega)) rfl rfl rfl rfl rfl (sc.2.2.1.trans (u 120 (by omega)).symm) rfl ud_eq.symm (sc.2.2.2.2.2.1.trans (u 122 (by omega)).symm) rfl rfl rfl (GEE_out s.1.1.2.1 n1.2 (by decide) (by decide)) n0.2
        have s1 : PS (sI h 1 7 (eA g 0 0 121 + 1)) (sA g 0 0 (upd (eA g 0 0) 121 (eA g 0 0 121 + 1))) := by
          refine PS_mk (S := [(0, 1, 7)]) (T := [(1, 0, 0)]) s ⟨E.1, E.2, ?_⟩ (u 3 (by decide)) (Fr_sI (by decide) (Fr_refl _ _)) (Fr_sA (by decide) (Fr_refl _ _)) (by decide) (by decide)
          exact RG_edit (q := 10) s.1.2.1 (fun k hk => u k (by omega)) (fun k hk => u k (by omega)) (fun p k hk hp hp2 => u _ (by omega)) (fun hq => by omega) (by show 0 ≤ (upd (eA g 0 0) 121 (eA g 0 0 121 + 1) 120).toInt; rw [u 120 (by omega)]; exact s.1.2.1.2.2.1.1) (by show 0 ≤ (upd (eA g 0 0) 121 (eA g 0 0 121 + 1) 121).toInt ∧ (upd (eA g 0 0) 121 (eA g 0 0 121 + 1) 121).toInt ≤ 999; rw [ud_eq]; omega)
        obtain ⟨g7, v1, v2, v3⟩ := j_geese _ _ _ _ _ a6 e2 s1 (by decide)
        have v3 : eA g7 0 0 121 = upd (eA g 0 0) 121 (eA g 0 0 121 + 1) 121 := v3
        rw [ud_eq] at v3
        exact ih m h6 g7 (x + 1) e v1 v2 (by omega) (by rw [v3]; omega)
theorem j_pass {h g : HS} {p : Int32} {z w : Int32 × HS} (s : STD h g) (e1 : f_X8_pass h p = some z) (e2 : f_X9_pass g p = some w) : DONE h g z w := by
  have y0 : (0 : Int32).toInt = 0 := rfl
  have y1 : (1 : Int32).toInt = 1 := rfl
  have y99 : (99 : Int32).toInt = 99 := rfl
  have y999 : (999 : Int32).toInt = 999 := rfl
  have s7 : eI h 1 7 = eA g 0 0 121 := s.1.1.2.2.2.2.1
  have dd : 0 ≤ (eA g 0 0 121).toInt ∧ (eA g 0 0 121).toInt ≤ 999 := s.2.1.2.2.1.2.1
  unfold f_X8_pass f_X8_pass_26 at e1
  unfold f_X9_pass f_X9_pass_25 at e2
  rw [s7] at e1
  obtain ⟨r1, b1, e2⟩ := ob1_some e2
  rcases mx_in b1 with ⟨k, q⟩ | ⟨k, q⟩
  · rw [if_pos k] at e2
    cases e2
    have ez : z = (-1, h) := by
      by_cases c1 : p < 1
      · rw [if_pos c1] at e1; exact (Option.some.inj e1).symm
      · rw [if_neg c1] at e1
        have d1 := gi_of_nlt c1
        by_cases c2 : (99 : Int32) < p
        · rw [if_pos c2] at e1; exact (Option.some.inj e1).symm
        · have d2 := gi_of_nlt c2
          exact absurd ⟨by omega, by omega⟩ q
    rw [ez]
    exact DONE_no s.1 s.2.1
  · rw [if_neg (by rw [k]; decide)] at e2
    rw [if_neg (gi_nlt (by omega)), if_neg (gi_nlt (by omega))] at e1
    have a := fb_addI (x := eA g 0 0 121) (y := p) (by omega) (by omega)
    by_cases c : eA g 0 0 121 + p ≤ 999
    · rw [if_pos c] at e1 e2
      have d := gi_of_le c
      obtain ⟨h4, a4, e1⟩ := ob1_some e1
      obtain ⟨g4, b4, e2⟩ := ob1_some e2
      obtain ⟨t1, t2, t3, t4, t5, t6⟩ := j_keep s.1 s.2.1 a4 b4
      have e3 : eA g4 0 0 3 = eA g 0 0 3 := t4 3 (by decide) (by decide)
      have e121 : eA g4 0 0 121 = eA g 0 0 121 := t4 121 (by decide) (by decide)
      have s4 : PS h4 g4 := ⟨⟨t1, t2, by rw [e3]; exact TXS_fr s.2.2 t5 t6 (by decide) (by decide)⟩, t3⟩
      obtain ⟨k1, k2⟩ := j_days (by omega) _ _ _ _ _ e1 e2 s4 (by decide) (by rw [e121]; omega)
      exact ⟨k1, k2.1.1, k2.1.2.1⟩
    · rw [if_neg c] at e1 e2
      cases e1
      cases e2
      exact DONE_no s.1 s.2.1
/-! calls that change few cells -/
theorem SR_scal {h h' : HS} {A B : Nat → Int32} (sr : SRel h 1 A) (n1 : (A 1).toInt ≤ 10) (n0 : (A 0).toInt ≤ 4) (u : ∀ k : Nat, ¬ k = 2 → ¬ k = 3 → ¬ k = 4 → ¬ k = 120 → ¬ k = 122 → B k = A k) (f : Fr [(0, 1, 5), (0, 1, 6), (0, 1, 8), (0, 1, 9), (0, 1, 10)] h h') (i5 : eI h' 1 5 = B 120) (i6 : eI h' 1 6 = B 2) (i8 : eI h' 1 8 = B 122) (i9 : eI h' 1 9 = B 3) (i10 : eI h' 1 10 = B 4) : SRel h' 1 B := by
  obtain ⟨⟨s1, s2, s3, s4, s5, s6, s7, s8, s9⟩, ge, mk, f0, st⟩ := sr
  have U : ∀ k : Nat, ¬ k = 2 ∧ ¬ k = 3 ∧ ¬ k = 4 ∧ ¬ k = 120 ∧ ¬ k = 122 → B k = A k := fun k q => u k q.1 q.2.1 q.2.2.1 q.2.2.2.1 q.2.2.2.2
  refine ⟨⟨?_, ?_, i5, i6, ?_, i8, i9, i10, ?_⟩, ?_, ?_, ?_, ?_⟩
  · rw [f.1 1 3 (by decide), U 1 (by decide)]; exact s1
  · rw [f.1 1 4 (by decide), U 0 (by decide)]; exact s2
  · rw [f.1 1 7 (by decide), U 121 (by decide)]; exact s5
  · rw [f.1 1 12 (by decide), U 5 (by decide)]; exact s9
  · rw [f.2.1 1 0 (by decide)]
    intro i hi
    rw [U 1 (by decide)] at hi
    rw [U _ (by omega)]
    exact ge i hi
  · rw [f.2.1 1 1 (by decide)]
    intro i hi
    rw [U 0 (by decide)] at hi
    rw [U _ (by omega)]
    exact mk i hi
  · rw [f.1 1 11 (by decide)]; exact f0
  · rw [f.2.1 1 2 (by decide), f.1 1 11 (by decide), U 5 (by decide)]
    exact STEPS_congr st (U 1 (by decide)) (fun k hk _ => U k (by omega)) n1 (Or.inr (fun k hk => U _ (by omega)))
theorem RG_scal {A B : Nat → Int32} (rg : RG A) (u : ∀ k : Nat, ¬ k = 2 → ¬ k = 3 → ¬ k = 4 → ¬ k = 120 → ¬ k = 122 → B k = A k) (b2 : 0 ≤ (B 2).toInt ∧ (B 2).toInt ≤ 99) (b3 : 0 ≤ (B 3).toInt ∧ (B 3).toInt ≤ 4) (b4 : -1 ≤ (B 4).toInt ∧ (B 4).toInt < (B 3).toInt) (b120 : 0 ≤ (B 120).toInt) : RG B := by
  obtain ⟨r1, r2, r3, r4⟩ := rg
  have U : ∀ k : Nat, ¬ k = 2 ∧ ¬ k = 3 ∧ ¬ k = 4 ∧ ¬ k = 120 ∧ ¬ k = 122 → B k = A k := fun k q => u k q.1 q.2.1 q.2.2.1 q.2.2.2.1 q.2.2.2.2
  have n1 := r1.1
  have n0 := r1.2.1
  refine ⟨?_, ?_, ⟨b120, ?_, fun p hp => ?_⟩, ?_⟩
  · unfold RN at *
    rw [U 1 (by decide), U 0 (by decide), U 5 (by decide)]
    omega
  · intro m hm
    rw [U 0 (by decide)] at hm
    rw [U _ (by omega), U _ (by omega), U _ (by omega)]
    exact r2 m hm
  · show 0 ≤ (B 121).toInt ∧ (B 121).toInt ≤ 999
    rw [U 121 (by decide)]; exact r3.2.1
  · rw [U 1 (by decide)] at hp
    rw [U 0 (by decide)]
    exact GR_eq (r3.2.2 p hp) (fun k hk => U _ (by omega)) (Int.le_refl _)
  · intro j hj
    rw [U 5 (by decide)] at hj
    exact RW_eq (r4 j hj) (fun k hk => U _ (by omega)) (U 1 (by decide)) n1.2 (by rw [U 0 (by decide)]; exact Int.le_refl _)
theorem j_store {h g : HS} {p1 p2 : Int32} {z w : Int32 × HS} (sr : SRel h 1 (eA g 0 0)) (rg : RG (eA g 0 0)) (e1 : f_X8_store h p1 p2 = some z) (e2 : f_X9_store g p1 p2 = some w) : DONE h g z w := by
  have y0 : (0 : Int32).toInt = 0 := rfl
  have y99 : (99 : Int32).toInt = 99 := rfl
  have y9999 : (9999 : Int32).toInt = 9999 := rfl
  unfold f_X8_store f_X8_store_21 at e1
  unfold f_X9_store f_X9_store_21 at e2
  have sc := sr.1
  have no : z = (0, h) → w = (0, g) → DONE h g z w := fun a b => by rw [a, b]; exact DONE_no sr rg
  obtain ⟨r1, b1, e2⟩ := ob1_some e2
  rcases mx_in b1 with ⟨k, q⟩ | ⟨k, q⟩
  · rw [if_pos k] at e2
    refine no ?_ (Option.some.inj e2).symm
    by_cases c1 : p1 < 0
    · rw [if_pos c1] at e1; exact (Option.some.inj e1).symm
    · rw [if_neg c1] at e1
      have d1 := gi_of_nlt c1
      rw [if_pos (gi_lt (by omega))] at e1
      exact (Option.some.inj e1).symm
  · rw [if_neg (by rw [k]; decide)] at e2
    rw [if_neg (gi_nlt (by omega)), if_neg (gi_nlt (by omega))] at e1
    obtain ⟨r3, b3, e2⟩ := ob1_some e2
    rcases mx_in b3 with ⟨k3, q3⟩ | ⟨k3, q3⟩
    · rw [if_pos k3] at e2
      refine no ?_ (Option.some.inj e2).symm
      by_cases c1 : p2 < 0
      · rw [if_pos c1] at e1; exact (Option.some.inj e1).symm
      · rw [if_neg c1] at e1
        have d1 := gi_of_nlt c1
        rw [if_neg (gi_nle (by omega))] at e1
        exact (Option.some.inj e1).symm
    · rw [if_neg (by rw [k3]; decide)] at e2
      rw [if_neg (gi_nlt (by omega)), if_pos (gi_le (by omega))] at e1
      cases e1
      cases e2
      have u : ∀ k : Nat, ¬ k = 2 → ¬ k = 3 → ¬ k = 4 → ¬ k = 120 → ¬ k = 122 → upd (upd (eA g 0 0) 120 p1) 2 p2 k = eA g 0 0 k := fun k a _ _ b _ => by rw [ud_ne a, ud_ne b]
      have v2 : upd (upd (eA g 0 0) 120 p1) 2 p2 2 = p2 := ud_eq
      have v120 : upd (upd (eA g 0 0) 120 p1) 2 p2 120 = p1 := by rw [ud_ne (by decide)]; exact ud_eq
      have v3 : upd (upd (eA g 0 0) 120 p1) 2 p2 3 = eA g 0 0 3 := by rw [ud_ne (by decide), ud_ne (by decide)]
      have v4 : upd (upd (eA g 0 0) 120 p1) 2 p2 4 = eA g 0 0 4 := by rw [ud_ne (by decide), ud_ne (by decide)]
      have v122 : upd (upd (eA g 0 0) 120 p1) 2 p2 122 = eA g 0 0 122 := by rw [ud_ne (by decide), ud_ne (by decide)]
      refine ⟨rfl, SR_scal (h := h) (h' := sI (sI h 1 5 p1) 1 6 p2) (B := upd (upd (eA g 0 0) 120 p1) 2 p2) sr rg.1.1.2 rg.1.2.1.2 u (Fr_sI (by decide) (Fr_sI (by decide) (Fr_refl _ _))) v120.symm v2.symm (sc.2.2.2.2.2.1.trans v122.symm) (sc.2.2.2.2.2.2.1.trans v3.symm) (sc.2.2.2.2.2.2.2.1.trans v4.symm), ?_⟩
      have rn := rg.1
      unfold RN at rn
      exact RG_scal (B := upd (upd (eA g 0 0) 120 p1) 2 p2) rg u (by rw [v2]; omega) (by rw [v3]; omega) (by rw [v3, v4]; omega) (by rw [v120]; omega)
theorem j_seed {h g : HS} {p1 : Int32} {z w : Int32 × HS} (sr : SRel h 1 (eA g 0 0)) (rg : RG (eA g 0 0)) (e1 : f_X8_seed h p1 = some z) (e2 : f_X9_seed g p1 = some w) : DONE h g z w := by
  have y0 : (0 : Int32).toInt = 0 := rfl
  have y9999 : (9999 : Int32).toInt = 9999 := rfl
  unfold f_X8_seed f_X8_seed_11 at e1
  unfold f_X9_seed at e2
  have sc := sr.1
  have no : z = (0, h) → w = (0, g) → DONE h g z w := fun a b => by rw [a, b]; exact DONE_no sr rg
  obtain ⟨r1, b1, e2⟩ := ob1_some e2
  rcases mx_in b1 with ⟨k, q⟩ | ⟨k, q⟩
  · rw [if_pos k] at e2
    refine no ?_ (Option.some.inj e2).symm
    by_cases c1 : p1 < 0
    · rw [if_pos c1] at e1; exact (Option.some.inj e1).symm
    · rw [if_neg c1] at e1
      have d1 := gi_of_nlt c1
      rw [if_neg (gi_nle (by omega))] at e1
      exact (Option.some.inj e1).symm
  · rw [if_neg (by rw [k]; decide)] at e2
    rw [if_neg (gi_nlt (by omega)), if_pos (gi_le (by omega))] at e1
    cases e1
    cases e2
    generalize p1 * 11 + 9 = v
    have u : ∀ k : Nat, ¬ k = 2 → ¬ k = 3 → ¬ k = 4 → ¬ k = 120 → ¬ k = 122 → upd (eA g 0 0) 122 v k = eA g 0 0 k := fun k _ _ _ _ b => ud_ne b
    have v2 : upd (eA g 0 0) 122 v 2 = eA g 0 0 2 := ud_ne (by decide)
    have v120 : upd (eA g 0 0) 122 v 120 = eA g 0 0 120 := ud_ne (by decide)
    have v3 : upd (eA g 0 0) 122 v 3 = eA g 0 0 3 := ud_ne (by decide)
    have v4 : upd (eA g 0 0) 122 v 4 = eA g 0 0 4 := ud_ne (by decide)
    refine ⟨rfl, SR_scal (h := h) (h' := sI h 1 8 v) (B := upd (eA g 0 0) 122 v) sr rg.1.1.2 rg.1.2.1.2 u (Fr_sI (by decide) (Fr_refl _ _)) (sc.2.2.1.trans v120.symm) (sc.2.2.2.1.trans v2.symm) ud_eq.symm (sc.2.2.2.2.2.2.1.trans v3.symm) (sc.2.2.2.2.2.2.2.1.trans v4.symm), ?_⟩
    have rn := rg.1
    unfold RN at rn
    exact RG_scal (B := upd (eA g 0 0) 122 v) rg u (by rw [v2]; omega) (by rw [v3]; omega) (by rw [v3, v4]; omega) (by rw [v120]; exact rg.2.2.1.1)
theorem j_by {h g : HS} {p1 : Int32} {z w : Int32 × HS} (sr : SRel h 1 (eA g 0 0)) (rg : RG (eA g 0 0)) (e1 : f_X8_by h p1 = some z) (e2 : f_X9_by g p1 = some w) : DONE h g z w := by
  have y0 : (0 : Int32).toInt = 0 := rfl
  have y1 : (1 : Int32).toInt = 1 := rfl
  have ym : (-1 : Int32).toInt = -1 := rfl
  have sc := sr.1
  have s9 : eI h 1 9 = eA g 0 0 3 := sc.2.2.2.2.2.2.1
  have rn := rg.1
  unfold RN at rn
  unfold f_X8_by f_X8_by_16 at e1
  unfold f_X9_by f_X9_by_23 at e2
  rw [s9] at e1
  have no : z = (0, h) → w = (0, g) → DONE h g z w := fun a b => by rw [a, b]; exact DONE_no sr rg
  have yes : -1 ≤ p1.toInt → p1.toInt < (eA g 0 0 3).toInt → z = (1, sI h 1 10 p1) → w = (1, sA g 0 0 (upd (eA g 0 0) 4 p1)) → DONE h g z w := by
    intro l1 l2 a b
    rw [a, b]
    have u : ∀ k : Nat, ¬ k = 2 → ¬ k = 3 → ¬ k = 4 → ¬ k = 120 → ¬ k = 122 → upd (eA g 0 0) 4 p1 k = eA g 0 0 k := fun k _ _ b _ _ => ud_ne b
    have v2 : upd (eA g 0 0) 4 p1 2 = eA g 0 0 2 := ud_ne (by decide)
    have v120 : upd (eA g 0 0) 4 p1 120 = eA g 0 0 120 := ud_ne (by decide)
    have v3 : upd (eA g 0 0) 4 p1 3 = eA g 0 0 3 := ud_ne (by decide)
    have v4 : upd (eA g 0 0) 4 p1 4 = p1 := ud_eq
    have v122 : upd (eA g 0 0) 4 p1 122 = eA g 0 0 122 := ud_ne (by decide)
    refine ⟨rfl, SR_scal (h := h) (h' := sI h 1 10 p1) (B := upd (eA g 0 0) 4 p1) sr rg.1.1.2 rg.1.2.1.2 u (Fr_sI (by decide) (Fr_refl _ _)) (sc.2.2.1.trans v120.symm) (sc.2.2.2.1.trans v2.symm) (sc.2.2.2.2.2.1.trans v122.symm) (s9.trans v3.symm) v4.symm, ?_⟩
    exact RG_scal (B := upd (eA g 0 0) 4 p1) rg u (by rw [v2]; omega) (by rw [v3]; omega) (by rw [v3, v4]; omega) (by rw [v120]; exact rg.2.2.1.1)
  by_cases cm : p1 = -1
  · rw [if_pos cm] at e2
    have d := gi_of_eq cm
    rw [if_neg (gi_nlt (by omega)), if_pos (gi_lt (by omega))] at e1
    exact yes (by omega) (by omega) (Option.some.inj e1).symm (Option.some.inj e2).symm
  · rw [if_neg cm] at e2
    have d := gi_of_ne cm
    have s := fb_subI (x := eA g 0 0 3) (y := 1) (by omega) (by omega)
    obtain ⟨r2, b2, e2⟩ := ob1_some e2
    rcases mx_in b2 with ⟨k, q⟩ | ⟨k, q⟩
    · rw [if_pos k] at e2
      refine no ?_ (Option.some.inj e2).symm
      by_cases c1 : p1 < -1
      · rw [if_pos c1] at e1; exact (Option.some.inj e1).symm
      · rw [if_neg c1] at e1
        have d1 := gi_of_nlt c1
        rw [if_neg (gi_nlt (by omega))] at e1
        exact (Option.some.inj e1).symm
    · rw [if_neg (by rw [k]; decide)] at e2
      rw [if_neg (gi_nlt (by omega)), if_pos (gi_lt (by omega))] at e1
      exact yes (by omega) (by omega) (Option.some.inj e1).symm (Option.some.inj e2).symm
/-! a market -/
theorem cp_isDigit {p r : Int32} (e : f_X8_isDigit p = some r) : (r = 0 ∧ ¬ (0 ≤ p.toInt ∧ p.toInt ≤ 9)) ∨ (r = 1 ∧ (0 ≤ p.toInt ∧ p.toInt ≤ 9)) := by
  have y0 : (0 : Int32).toInt = 0 := rfl
  have y9 : (9 : Int32).toInt = 9 := rfl
  unfold f_X8_isDigit f_X8_isDigit_14 f_X8_isDigit_15 at e
  rw [if_pos (Or.inl rfl), if_pos (Or.inr rfl)] at e
  by_cases c : p < 0
  · rw [if_pos c] at e
    have d := gi_of_lt c
    cases e
    exact Or.inl ⟨rfl, by omega⟩
  · rw [if_neg c] at e
    have d := gi_of_nlt c
    by_cases c2 : (9 : Int32) < p
    · rw [if_pos c2] at e
      have d2 := gi_of_lt c2
      cases e
      exact Or.inl ⟨rfl, by omega⟩
    · rw [if_neg c2] at e
      have d2 := gi_of_nlt c2
      cases e
      exact Or.inr ⟨rfl, by omega, by omega⟩
theorem j_market_call {h g : HS} {p1 p2 p3 : Int32} {z w : Int32 × HS} (sr : SRel h 1 (eA g 0 0)) (rg : RG (eA g 0 0)) (e1 : f_X8_market h p1 p2 p3 = some z) (e2 : f_X9_market g p1 p2 p3 = some w) : DONE h g z w := by
  have y0 : (0 : Int32).toInt = 0 := rfl
  have y1 : (1 : Int32).toInt = 1 := rfl
  have y2 : (2 : Int32).toInt = 2 := rfl
  have y4 : (4 : Int32).toInt = 4 := rfl
  have y9 : (9 : Int32).toInt = 9 := rfl
  have y10 : (10 : Int32).toInt = 10 := rfl
  have sc := sr.1
  have s4 : eI h 1 4 = eA g 0 0 0 := sc.2.1
  have rn := rg.1
  unfold RN at rn
  unfold f_X8_market f_X8_market_25 at e1
  unfold f_X9_market f_X9_market_40 at e2
  have no : z = (-1, h) → w = (-1, g) → DONE h g z w := fun a b => by rw [a, b]; exact DONE_no sr rg
  obtain ⟨r1, b1, e2⟩ := ob1_some e2
  rcases mx_in b1 with ⟨k, q⟩ | ⟨k, q⟩
  · rw [if_pos k] at e2
    refine no ?_ (Option.some.inj e2).symm
    by_cases c1 : p1 < 1
    · rw [if_pos c1] at e1; exact (Option.some.inj e1).symm
    · rw [if_neg c1] at e1
      have d1 := gi_of_nlt c1
      rw [if_pos (gi_lt (by omega))] at e1
      exact (Option.some.inj e1).symm
  · rw [if_neg (by rw [k]; decide)] at e2
    rw [if_neg (gi_nlt (by omega)), if_neg (gi_nlt (by omega))] at e1
    obtain ⟨r3, b3, e2⟩ := ob1_some e2
    obtain ⟨d3, a3, e1⟩ := ob1_some e1
    rcases mx_in b3 with ⟨k3, q3⟩ | ⟨k3, q3⟩
    · rw [if_pos k3] at e2
      refine no ?_ (Option.some.inj e2).symm
      rcases cp_isDigit a3 with ⟨k4, q4⟩ | ⟨k4, q4⟩
      · rw [if_pos k4] at e1; exact (Option.some.inj e1).symm
      · exact absurd ⟨by omega, by omega⟩ q3
    · rw [if_neg (by rw [k3]; decide)] at e2
      rcases cp_isDigit a3 with ⟨k4, q4⟩ | ⟨k4, q4⟩
      · exact absurd ⟨by omega, by omega⟩ q4
      rw [if_neg (by rw [k4]; decide)] at e1
      obtain ⟨r5, b5, e2⟩ := ob1_some e2
      obtain ⟨d5, a5, e1⟩ := ob1_some e1
      rcases mx_in b5 with ⟨k5, q5⟩ | ⟨k5, q5⟩
      · rw [if_pos k5] at e2
        refine no ?_ (Option.some.inj e2).symm
        rcases cp_isDigit a5 with ⟨k6, q6⟩ | ⟨k6, q6⟩
        · rw [if_pos k6] at e1; exact (Option.some.inj e1).symm
        · exact absurd ⟨by omega, by omega⟩ q5
      · rw [if_neg (by rw [k5]; decide)] at e2
        rcases cp_isDigit a5 with ⟨k6, q6⟩ | ⟨k6, q6⟩
        · exact absurd ⟨by omega, by omega⟩ q6
        rw [if_neg (by rw [k6]; decide)] at e1
        obtain ⟨r7, h7, a7, e1⟩ := ob2_some e1
        unfold f_X4_addMarket at a7
        rw [s4] at a7
        by_cases c4 : eA g 0 0 0 = 4
        · rw [if_pos c4] at e2
          have d4 := gi_of_eq c4
          rw [if_neg (gi_nlt (by omega))] at a7
          cases a7
          exact no (Option.some.inj e1).symm (Option.some.inj e2).symm
        · rw [if_neg c4] at e2
          have d4 := gi_of_ne c4
          rw [if_pos (gi_lt (by omega))] at a7
          obtain ⟨c, hc⟩ : ∃ c : Nat, (eA g 0 0 0).toInt = (c : Int) := ⟨(eA g 0 0 0).toInt.toNat, by omega⟩
          obtain ⟨-, j0⟩ := ixm (p := eA g 0 0 0) (f := 0) (q := c) (k := 0) hc rfl (by omega) (by decide)
          obtain ⟨-, j1⟩ := ixm (p := eA g 0 0 0) (f := 1) (q := c) (k := 1) hc rfl (by omega) (by decide)
          obtain ⟨-, j2⟩ := ixm (p := eA g 0 0 0) (f := 2) (q := c) (k := 2) hc rfl (by omega) (by decide)
          obtain ⟨-, a7⟩ := ob_if a7
          obtain ⟨-, a7⟩ := ob_if a7
          obtain ⟨-, a7⟩ := ob_if a7
          rw [j0, j1, j2] at a7
          have m1 : (3 * eA g 0 0 0).toInt = 3 * (eA g 0 0 0).toInt := fb_mulJ rfl (by omega) (by omega)
          have m2 := fb_addI (x := 10) (y := 3 * eA g 0 0 0) (by omega) (by omega)
          have m3 := fb_addI (x := 10 + 3 * eA g 0 0 0) (y := 1) (by omega) (by omega)
          have m4 := fb_addI (x := 10 + 3 * eA g 0 0 0) (y := 2) (by omega) (by omega)
          have m5 := fb_addI (x := eA g 0 0 0) (y := 1) (by omega) (by omega)
          have i0 : (10 + 3 * eA g 0 0 0).toNatClampNeg = 10 + (3 * c + 0) := by show (10 + 3 * eA g 0 0 0).toInt.toNat = _; omega
          have i1 : (10 + 3 * eA g 0 0 0 + 1).toNatClampNeg = 10 + (3 * c + 1) := by show (10 + 3 * eA g 0 0 0 + 1).toInt.toNat = _; omega
          have i2 : (10 + 3 * eA g 0 0 0 + 2).toNatClampNeg = 10 + (3 * c + 2) := by show (10 + 3 * eA g 0 0 0 + 2).toInt.toNat = _; omega
          obtain ⟨-, e2⟩ := ob_if e2
          obtain ⟨-, e2⟩ := ob_if e2
          obtain ⟨-, e2⟩ := ob_if e2
          rw [i0, i1, i2] at e2
          cases a7
          cases e1
          cases e2
          obtain ⟨X, hX⟩ : ∃ X : Nat → Int32, X = upd (upd (upd (eA g 0 0) (10 + (3 * c + 0)) p1) (10 + (3 * c + 1)) p2) (10 + (3 * c + 2)) p3 := ⟨_, rfl⟩
          have X0 : X 0 = eA g 0 0 0 := by rw [hX, ud_ne (by omega), ud_ne (by omega), ud_ne (by omega)]
          have B0 : upd X 0 (X 0 + 1) 0 = eA g 0 0 0 + 1 := by rw [ud_eq, X0]
          have u : ∀ k : Nat, ¬ k = 0 → (k < 10 + 3 * c ∨ 10 + 3 * c + 3 ≤ k) → upd X 0 (X 0 + 1) k = eA g 0 0 k := fun k k0 q => by rw [ud_ne k0, hX, ud_ne (by omega), ud_ne (by omega), ud_ne (by omega)]
          have w0 : upd X 0 (X 0 + 1) (10 + (3 * c + 0)) = p1 := by rw [ud_ne (by omega), hX, ud_ne (by omega), ud_ne (by omega), ud_eq]
          have w1 : upd X 0 (X 0 + 1) (10 + (3 * c + 1)) = p2 := by rw [ud_ne (by omega), hX, ud_ne (by omega), ud_eq]
          have w2 : upd X 0 (X 0 + 1) (10 + (3 * c + 2)) = p3 := by rw [ud_ne (by omega), hX, ud_eq]
          have R : SRel (sI (sA (sA (sA h 1 1 (upd (eA h 1 1) (3 * c + 0) p1)) 1 1 (upd (upd (eA h 1 1) (3 * c + 0) p1) (3 * c + 1) p2)) 1 1 (upd (upd (upd (eA h 1 1) (3 * c + 0) p1) (3 * c + 1) p2) (3 * c + 2) p3)) 1 4 (eA g 0 0 0 + 1)) 1 (upd X 0 (X 0 + 1)) ∧ RG (upd X 0 (X 0 + 1)) := by
            obtain ⟨⟨s1, s2, s3, s4', s5, s6, s7, s8, s9⟩, ge, mk, f0, st⟩ := id sr
            obtain ⟨r1, r2, r3, r4⟩ := id rg
            generalize upd X 0 (X 0 + 1) = B at *
            refine ⟨⟨⟨?_, ?_, ?_, ?_, ?_, ?_, ?_, ?_, ?_⟩, ?_, ?_, f0, ?_⟩, ?_, ?_, ?_, ?_⟩
            · exact s1.trans (u 1 (by decide) (by omega)).symm
            · exact B0.symm
            · exact s3.trans (u 120 (by decide) (by omega)).symm
            · exact s4'.trans (u 2 (by decide) (by omega)).symm
            · exact s5.trans (u 121 (by decide) (by omega)).symm
            · exact s6.trans (u 122 (by decide) (by omega)).symm
            · exact s7.trans (u 3 (by decide) (by omega)).symm
            · exact s8.trans (u 4 (by decide) (by omega)).symm
            · exact s9.trans (u 5 (by decide) (by omega)).symm
            · intro i hi
              rw [u 1 (by decide) (by omega)] at hi
              rw [u _ (by omega) (by omega)]
              exact ge i hi
            · intro i hi
              rw [B0] at hi
              show upd (upd (upd (eA h 1 1) (3 * c + 0) p1) (3 * c + 1) p2) (3 * c + 2) p3 i = _
              by_cases q2 : i = 3 * c + 2
              · subst q2; rw [ud_eq, w2]
              · rw [ud_ne q2]
                by_cases q1 : i = 3 * c + 1
                · subst q1; rw [ud_eq, w1]
                · rw [ud_ne q1]
                  by_cases q0 : i = 3 * c + 0
                  · subst q0; rw [ud_eq, w0]
                  · rw [ud_ne q0, u _ (by omega) (by omega)]
                    exact mk i (by omega)
            · show STEPS (eA h 1 2) B (eI h 1 11).toInt.toNat (B 5).toInt.toNat
              rw [u 5 (by decide) (by omega)]
              exact STEPS_congr st (u 1 (by decide) (by omega)) (fun k hk _ => u k (by omega) (by omega)) r1.1.2 (Or.inr (fun k hk => u _ (by omega) (by omega)))
            · unfold RN at *
              rw [B0, u 1 (by decide) (by omega), u 5 (by decide) (by omega), u 3 (by decide) (by omega), u 4 (by decide) (by omega), u 2 (by decide) (by omega)]
              omega
            · intro m hm
              rw [B0] at hm
              by_cases cm : m = c
              · subst cm
                have w0 : B (10 + 3 * m) = p1 := w0
                rw [w0, w1, w2]
                omega
              · rw [u _ (by omega) (by omega), u _ (by omega) (by omega), u _ (by omega) (by omega)]
                exact r2 m (by omega)
            · refine ⟨?_, ?_, fun q hq => ?_⟩
              · show 0 ≤ (B 120).toInt
                rw [u 120 (by decide) (by omega)]; exact r3.1
              · show 0 ≤ (B 121).toInt ∧ (B 121).toInt ≤ 999
                rw [u 121 (by decide) (by omega)]; exact r3.2.1
              · rw [u 1 (by decide) (by omega)] at hq
                exact GR_eq (r3.2.2 q hq) (fun k hk => u _ (by omega) (by omega)) (by rw [B0]; omega)
            · intro j hj
              rw [u 5 (by decide) (by omega)] at hj
              exact RW_eq (r4 j hj) (fun k hk => u _ (by omega) (by omega)) (u 1 (by decide) (by omega)) r1.1.2 (by rw [B0]; omega)
          rw [hX] at R B0
          refine ⟨?_, R.1, R.2⟩
          show eA g 0 0 0 + 1 - 1 = upd _ 0 _ 0 - 1
          exact congrArg (fun v => v - 1) B0.symm
/-! a goose is told -/
def tv (w f : Int32) (k : Nat) : Int32 := if k = 0 then w else if k = 1 then f else if k = 4 then 0 else if k = 8 then 0 else -1
theorem mp_tells {g g' : HS} {a w f p : Int32} {b c : Nat} (e : f_X9_tellsGoose g a p w f = some g') (ha : a.toInt = (b : Int)) (hb : b < 1990) (hp : p.toInt = (c : Int)) (hc : c < 10) : (∀ k : Nat, k < 9 → gc (eA g' 0 0) b c k = tv w f k) ∧ (∀ i : Nat, (i < b + 9 * c ∨ b + 9 * c + 9 ≤ i) → eA g' 0 0 i = eA g 0 0 i) ∧ Fr [(1, 0, 0)] g g' := by
  have y0 : (0 : Int32).toInt = 0 := rfl
  have y1 : (1 : Int32).toInt = 1 := rfl
  have y2 : (2 : Int32).toInt = 2 := rfl
  have y3 : (3 : Int32).toInt = 3 := rfl
  have y4 : (4 : Int32).toInt = 4 := rfl
  have y5 : (5 : Int32).toInt = 5 := rfl
  have y6 : (6 : Int32).toInt = 6 := rfl
  have y7 : (7 : Int32).toInt = 7 := rfl
  have y8 : (8 : Int32).toInt = 8 := rfl
  have fr := w_f_X9_tellsGoose _ _ _ _ _ _ e
  unfold f_X9_tellsGoose at e
  have m1 : (9 * p).toInt = 9 * p.toInt := fb_mulJ rfl (by omega) (by omega)
  have m2 := fb_addI (x := a) (y := 9 * p) (by omega) (by omega)
  generalize a + 9 * p = E at e m2
  have I : ∀ (v : Int32) (n : Nat), v.toInt = (n : Int) → n ≤ 8 → (E + v).toNatClampNeg = b + (9 * c + n) := by
    intro v n hv hn
    have m3 := fb_addI (x := E) (y := v) (by omega) (by omega)
    show (E + v).toInt.toNat = _
    omega
  obtain ⟨-, e⟩ := ob_if e
  obtain ⟨-, e⟩ := ob_if e
  obtain ⟨-, e⟩ := ob_if e
  obtain ⟨-, e⟩ := ob_if e
  obtain ⟨-, e⟩ := ob_if e
  obtain ⟨-, e⟩ := ob_if e
  obtain ⟨-, e⟩ := ob_if e
  obtain ⟨-, e⟩ := ob_if e
  obtain ⟨-, e⟩ := ob_if e
  rw [I 0 0 rfl (by decide), I 1 1 rfl (by decide), I 2 2 rfl (by decide), I 3 3 rfl (by decide), I 4 4 rfl (by decide), I 5 5 rfl (by decide), I 6 6 rfl (by decide), I 7 7 rfl (by decide), I 8 8 rfl (by decide)] at e
  have eg : eA g' 0 0 = upd (upd (upd (upd (upd (upd (upd (upd (upd (eA g 0 0) (b + (9 * c + 0)) w) (b + (9 * c + 1)) f) (b + (9 * c + 2)) (-1)) (b + (9 * c + 3)) (-1)) (b + (9 * c + 4)) 0) (b + (9 * c + 5)) (-1)) (b + (9 * c + 6)) (-1)) (b + (9 * c + 7)) (-1)) (b + (9 * c + 8)) 0 := by
    rw [← Option.some.inj e]
    rfl
  refine ⟨fun k hk => ?_, fun i hi => ?_, Fr_mono (by decide) fr⟩
  · rw [eg]
    match k, hk with
    | 0, _ => simp (disch := omega) only [gc_upd_ne, gc_upd_eq]; rfl
    | 1, _ => simp (disch := omega) only [gc_upd_ne, gc_upd_eq]; rfl
    | 2, _ => simp (disch := omega) only [gc_upd_ne, gc_upd_eq]; rfl
    | 3, _ => simp (disch := omega) only [gc_upd_ne, gc_upd_eq]; rfl
    | 4, _ => simp (disch := omega) only [gc_upd_ne, gc_upd_eq]; rfl
    | 5, _ => simp (disch := omega) only [gc_upd_ne, gc_upd_eq]; rfl
    | 6, _ => simp (disch := omega) only [gc_upd_ne, gc_upd_eq]; rfl
    | 7, _ => simp (disch := omega) only [gc_upd_ne, gc_upd_eq]; rfl
    | 8, _ => simp (disch := omega) only [gc_upd_ne, gc_upd_eq]; rfl
  · rw [eg, ud_ne (by omega), ud_ne (by omega), ud_ne (by omega), ud_ne (by omega), ud_ne (by omega), ud_ne (by omega), ud_ne (by omega), ud_ne (by omega), ud_ne (by omega)]
theorem mp_goose49 {p1 p2 : Int32} {c N : Nat} (hc : c < 10) (hN : N ≤ 20) : ∀ (n : Nat) (g : HS) (x : Int32) (r : Int32 × HS), f_X9_goose_49 n g p1 p2 x = some r → 0 ≤ x.toInt → (eA g 0 0 1).toInt = (c : Int) → (eA g 0 0 5).toInt = (N : Int) → r.1 = eA g 0 0 1 ∧ eA r.2 0 0 1 = eA g 0 0 1 + 1 ∧ (∀ j k : Nat, x.toInt ≤ (j : Int) → j < N → k < 9 → gc (eA r.2 0 0) (130 + 93 * j) c k = tv p1 p2 k) ∧ (∀ i : Nat, ¬ i = 1 → (∀ j : Nat, x.toInt ≤ (j : Int) → j < N → (i < 130 + 93 * j + 9 * c ∨ 130 + 93 * j + 9 * c + 9 ≤ i)) → eA r.2 0 0 i = eA g 0 0 i) := by
  have y1 : (1 : Int32).toInt = 1 := rfl
  have y93 : (93 : Int32).toInt = 93 := rfl
  have y130 : (130 : Int32).toInt = 130 := rfl
  intro n
  induction n with
  | zero => intro g x r e; cases e
  | succ n ih =>
    intro g x r e hx h1 h5
    rw [f_X9_goose_49_s] at e
    by_cases cx : eA g 0 0 5 ≤ x
    · rw [if_pos cx] at e
      have d := gi_of_le cx
      cases e
      refine ⟨?_, ?_, fun j k q1 q2 _ => by omega, fun i hi _ => ?_⟩
      · show upd (eA g 0 0) 1 (eA g 0 0 1 + 1) 1 - 1 = _
        rw [ud_eq, i32_ps]
      · show upd (eA g 0 0) 1 (eA g 0 0 1 + 1) 1 = _
        exact ud_eq
      · show upd (eA g 0 0) 1 (eA g 0 0 1 + 1) i = _
        exact ud_ne hi
    · rw [if_neg cx] at e
      have d := gi_of_nle cx
      have m1 : (93 * x).toInt = 93 * x.toInt := fb_mulJ rfl (by omega) (by omega)
      have m2 := fb_addI (x := 130) (y := 93 * x) (by omega) (by omega)
      have m3 := fb_addI (x := x) (y := 1) (by omega) (by omega)
      obtain ⟨g8, a8, e⟩ := ob1_some e
      obtain ⟨t1, t2, t3⟩ := mp_tells (b := 130 + 93 * x.toInt.toNat) (c := c) a8 (by omega) (by omega) h1 hc
      obtain ⟨k1, k2, k3, k4⟩ := ih g8 (x + 1) r e (by omega) (by rw [t2 1 (by omega)]; exact h1) (by rw [t2 5 (by omega)]; exact h5)
      rw [t2 1 (by omega)] at k1 k2
      refine ⟨k1, k2, fun j k q1 q2 q3 => ?_, fun i hi q => ?_⟩
      · by_cases cj : (j : Int) = x.toInt
        · rw [show x.toInt.toNat = j by omega] at t1
          rw [← t1 k q3]
          exact k4 _ (by omega) (fun j' q1' q2' => by omega)
        · exact k3 j k (by omega) q2 q3
      · rw [k4 i hi (fun j q1' q2' => q j (by omega) q2')]
        have := q x.toInt.toNat (by omega) (by omega)
        exact t2 i (by omega)
theorem cp_addGoose {h : HS} {p1 p2 : Int32} {z : Int32 × HS} {c : Nat} (e : f_X4_addGoose h p1 p2 = some z) (hc : (eI h 1 3).toInt = (c : Int)) (c10 : c < 10) : z.1 = eI h 1 3 ∧ eI z.2 1 3 = eI h 1 3 + 1 ∧ (∀ k : Nat, k < 9 → eA z.2 1 0 (9 * c + k) = tv p1 p2 k) ∧ (∀ i : Nat, i < 9 * c → eA z.2 1 0 i = eA h 1 0 i) ∧ Fr [(1, 1, 0), (0, 1, 3)] h z.2 := by
  have y1 : (1 : Int32).toInt = 1 := rfl
  have y10 : (10 : Int32).toInt = 10 := rfl
  have a := fb_addI (x := eI h 1 3) (y := 1) (by omega) (by omega)
  have fr := w_f_X4_addGoose _ _ _ _ e
  unfold f_X4_addGoose at e
  rw [if_pos (gi_lt (by omega))] at e
  have L : ∀ hh : HS, eI hh 1 3 = eI h 1 3 + 1 → (c : Int) < (eI hh 1 3).toInt ∧ (eI hh 1 3).toInt ≤ 10 := fun hh q => by rw [q]; omega
  obtain ⟨h2, a2, e⟩ := ob1_some e
  have E2 := cp_setGoose (q := c) (k := 0) a2 hc rfl (L _ rfl).1 (L _ rfl).2 (by decide)
  subst E2
  obtain ⟨h3, a3, e⟩ := ob1_some e
  have E3 := cp_setGoose (q := c) (k := 1) a3 hc rfl (L _ rfl).1 (L _ rfl).2 (by decide)
  subst E3
  obtain ⟨h4, a4, e⟩ := ob1_some e
  have E4 := cp_setGoose (q := c) (k := 2) a4 hc rfl (L _ rfl).1 (L _ rfl).2 (by decide)
  subst E4
  obtain ⟨h5, a5, e⟩ := ob1_some e
  have E5 := cp_setGoose (q := c) (k := 3) a5 hc rfl (L _ rfl).1 (L _ rfl).2 (by decide)
  subst E5
  obtain ⟨h6, a6, e⟩ := ob1_some e
  have E6 := cp_setGoose (q := c) (k := 4) a6 hc rfl (L _ rfl).1 (L _ rfl).2 (by decide)
  subst E6
  obtain ⟨h7, a7, e⟩ := ob1_some e
  have E7 := cp_setGoose (q := c) (k := 5) a7 hc rfl (L _ rfl).1 (L _ rfl).2 (by decide)
  subst E7
  obtain ⟨h8, a8, e⟩ := ob1_some e
  have E8 := cp_setGoose (q := c) (k := 6) a8 hc rfl (L _ rfl).1 (L _ rfl).2 (by decide)
  subst E8
  obtain ⟨h9, a9, e⟩ := ob1_some e
  have E9 := cp_setGoose (q := c) (k := 7) a9 hc rfl (L _ rfl).1 (L _ rfl).2 (by decide)
  subst E9
  obtain ⟨h10, a10, e⟩ := ob1_some e
  have E10 := cp_setGoose (q := c) (k := 8) a10 hc rfl (L _ rfl).1 (L _ rfl).2 (by decide)
  subst E10
  cases e
  refine ⟨rfl, rfl, fun k hk => ?_, fun i hi => ?_, Fr_mono (by decide) fr⟩
  · show upd (upd (upd (upd (upd (upd (upd (upd (upd (eA h 1 0) (9 * c + 0) p1) (9 * c + 1) p2) (9 * c + 2) (-1)) (9 * c + 3) (-1)) (9 * c + 4) 0) (9 * c + 5) (-1)) (9 * c + 6) (-1)) (9 * c + 7) (-1)) (9 * c + 8) 0 (9 * c + k) = tv p1 p2 k
    match k, hk with
    | 0, _ => simp (disch := omega) only [ud_ne, ud_eq]; rfl
    | 1, _ => simp (disch := omega) only [ud_ne, ud_eq]; rfl
    | 2, _ => simp (disch := omega) only [ud_ne, ud_eq]; rfl
    | 3, _ => simp (disch := omega) only [ud_ne, ud_eq]; rfl
    | 4, _ => simp (disch := omega) only [ud_ne, ud_eq]; rfl
    | 5, _ => simp (disch := omega) only [ud_ne, ud_eq]; rfl
    | 6, _ => simp (disch := omega) only [ud_ne, ud_eq]; rfl
    | 7, _ => simp (disch := omega) only [ud_ne, ud_eq]; rfl
    | 8, _ => simp (disch := omega) only [ud_ne, ud_eq]; rfl
  · show upd (upd (upd (upd (upd (upd (upd (upd (upd (eA h 1 0) (9 * c + 0) p1) (9 * c + 1) p2) (9 * c + 2) (-1)) (9 * c + 3) (-1)) (9 * c + 4) 0) (9 * c + 5) (-1)) (9 * c + 6) (-1)) (9 * c + 7) (-1)) (9 * c + 8) 0 i = eA h 1 0 i
    simp (disch := omega) only [ud_ne]
theorem tv_GR {A : Nat → Int32} {b c : Nat} {m : Int} {w f : Int32} (h : ∀ k : Nat, k < 9 → gc A b c k = tv w f k) (hw : 0 ≤ w.toInt ∧ w.toInt ≤ 20) (hf : 0 ≤ f.toInt ∧ f.toInt ≤ 99) : GR A b c m := by
  have t0 : (0 : Int32).toInt = 0 := rfl
  have tm : (-1 : Int32).toInt = -1 := rfl
  have v0 : gc A b c 0 = w := h 0 (by decide)
  have v1 : gc A b c 1 = f := h 1 (by decide)
  have v2 : gc A b c 2 = -1 := h 2 (by decide)
  have v3 : gc A b c 3 = -1 := h 3 (by decide)
  have v4 : gc A b c 4 = 0 := h 4 (by decide)
  have v5 : gc A b c 5 = -1 := h 5 (by decide)
  have v6 : gc A b c 6 = -1 := h 6 (by decide)
  have v7 : gc A b c 7 = -1 := h 7 (by decide)
  have v8 : gc A b c 8 = 0 := h 8 (by decide)
  unfold GR
  rw [v0, v1, v2, v3, v4, v5, v6, v7, v8]
  omega
theorem j_goose {h g : HS} {p1 p2 : Int32} {z w : Int32 × HS} (sr : SRel h 1 (eA g 0 0)) (rg : RG (eA g 0 0)) (e1 : f_X8_goose h p1 p2 = some z) (e2 : f_X9_goose g p1 p2 = some w) : DONE h g z w := by
  have y0 : (0 : Int32).toInt = 0 := rfl
  have y1 : (1 : Int32).toInt = 1 := rfl
  have y10 : (10 : Int32).toInt = 10 := rfl
  have y20 : (20 : Int32).toInt = 20 := rfl
  have y99 : (99 : Int32).toInt = 99 := rfl
  have sc := sr.1
  have s3 : eI h 1 3 = eA g 0 0 1 := sc.1
  have rn := rg.1
  unfold RN at rn
  unfold f_X8_goose f_X8_goose_21 at e1
  unfold f_X9_goose f_X9_goose_31 at e2
  have no : z = (-1, h) → w = (-1, g) → DONE h g z w := fun a b => by rw [a, b]; exact DONE_no sr rg
  obtain ⟨r1, b1, e2⟩ := ob1_some e2
  rcases mx_in b1 with ⟨k, q⟩ | ⟨k, q⟩
  · rw [if_pos k] at e2
    refine no ?_ (Option.some.inj e2).symm
    by_cases c1 : p1 < 1
    · rw [if_pos c1] at e1; exact (Option.some.inj e1).symm
    · rw [if_neg c1] at e1
      have d1 := gi_of_nlt c1
      rw [if_pos (gi_lt (by omega))] at e1
      exact (Option.some.inj e1).symm
  · rw [if_neg (by rw [k]; decide)] at e2
    rw [if_neg (gi_nlt (by omega)), if_neg (gi_nlt (by omega))] at e1
    obtain ⟨r3, b3, e2⟩ := ob1_some e2
    rcases mx_in b3 with ⟨k3, q3⟩ | ⟨k3, q3⟩
    · rw [if_pos k3] at e2
      refine no ?_ (Option.some.inj e2).symm
      by_cases c1 : p2 < 0
      · rw [if_pos c1] at e1; exact (Option.some.inj e1).symm
      · rw [if_neg c1] at e1
        have d1 := gi_of_nlt c1
        rw [if_neg (gi_nle (by omega))] at e1
        exact (Option.some.inj e1).symm
    · rw [if_neg (by rw [k3]; decide)] at e2
      rw [if_neg (gi_nlt (by omega)), if_pos (gi_le (by omega))] at e1
      obtain ⟨r5, h5, a5, e1⟩ := ob2_some e1
      cases e1
      by_cases c10 : eA g 0 0 1 = 10
      · rw [if_pos c10] at e2
        have d := gi_of_eq c10
        unfold f_X4_addGoose at a5
        rw [s3, if_neg (gi_nlt (by omega))] at a5
        exact no (Option.some.inj a5).symm (Option.some.inj e2).symm
      · rw [if_neg c10] at e2
        have d := gi_of_ne c10
        obtain ⟨c, hc⟩ : ∃ c : Nat, (eA g 0 0 1).toInt = (c : Int) := ⟨(eA g 0 0 1).toInt.toNat, by omega⟩
        obtain ⟨N, hN⟩ : ∃ N : Nat, (eA g 0 0 5).toInt = (N : Int) := ⟨(eA g 0 0 5).toInt.toNat, by omega⟩
        obtain ⟨v1, v2, v3, v4, v5⟩ := cp_addGoose (c := c) a5 (by rw [s3]; exact hc) (by omega)
        obtain ⟨g6, b6, e2⟩ := ob1_some e2
        obtain ⟨t1, t2, t3⟩ := mp_tells (b := 30) (c := c) b6 rfl (by decide) hc (by omega)
        obtain ⟨k1, k2, k3', k4⟩ := mp_goose49 (c := c) (N := N) (by omega) (by omega) _ g6 0 w e2 (by decide) (by rw [t2 1 (by omega)]; exact hc) (by rw [t2 5 (by omega)]; exact hN)
        rw [t2 1 (by omega)] at k1 k2
        have v1 : r5 = eI h 1 3 := v1
        have v2 : eI h5 1 3 = eI h 1 3 + 1 := v2
        have v3 : ∀ k : Nat, k < 9 → eA h5 1 0 (9 * c + k) = tv p1 p2 k := v3
        have v4 : ∀ i : Nat, i < 9 * c → eA h5 1 0 i = eA h 1 0 i := v4
        have v5 : Fr [(1, 1, 0), (0, 1, 3)] h h5 := v5
        have a1 := fb_addI (x := eA g 0 0 1) (y := 1) (by omega) (by omega)
        -- the new row: told cells, the rest as before
        have T30 : ∀ k : Nat, k < 9 → gc (eA w.2 0 0) 30 c k = tv p1 p2 k := fun k hk => by
          rw [← t1 k hk]
          exact k4 _ (by omega) (fun j _ _ => by omega)
        have TJ : ∀ j k : Nat, j < N → k < 9 → gc (eA w.2 0 0) (130 + 93 * j) c k = tv p1 p2 k := fun j k hj hk => k3' j k (by omega) hj hk
        have U : ∀ i : Nat, ¬ i = 1 → (i < 30 + 9 * c ∨ 30 + 9 * c + 9 ≤ i) → (∀ j : Nat, j < N → (i < 130 + 93 * j + 9 * c ∨ 130 + 93 * j + 9 * c + 9 ≤ i)) → eA w.2 0 0 i = eA g 0 0 i := fun i hi q1 q2 => (k4 i hi (fun j _ hj => q2 j hj)).trans (t2 i q1)
        have Ulo : ∀ i : Nat, ¬ i = 1 → (i < 30 + 9 * c ∨ 30 + 9 * c + 9 ≤ i) → i < 130 → eA w.2 0 0 i = eA g 0 0 i := fun i hi q1 q2 => U i hi q1 (fun j _ => by omega)
        have UR : ∀ j i : Nat, j < N → i < 93 → (i < 9 * c ∨ 9 * c + 9 ≤ i) → eA w.2 0 0 (130 + 93 * j + i) = eA g 0 0 (130 + 93 * j + i) := fun j i hj hi q => U _ (by omega) (by omega) (fun j' _ => by
          by_cases cj : j' = j
          · subst cj; omega
          · omega)
        obtain ⟨⟨s1, s2, s3', s4, s5, s6, s7, s8, s9⟩, ge, mk, f0, st⟩ := id sr
        obtain ⟨r1', r2', r3'', r4'⟩ := id rg
        generalize hB : eA w.2 0 0 = B at *
        have B1 : (B 1).toInt = (c : Int) + 1 := by rw [k2]; omega
        refine ⟨?_, ?_, ?_⟩
        · show r5 = w.1
          rw [v1, k1, s3]
        · rw [hB]
          refine ⟨⟨?_, ?_, ?_, ?_, ?_, ?_, ?_, ?_, ?_⟩, ?_, ?_, ?_, ?_⟩
          · show eI h5 1 3 = B 1
            rw [v2, k2, s3]
          · exact (v5.1 1 4 (by decide)).trans (s2.trans (Ulo 0 (by decide) (by omega) (by decide)).symm)
          · exact (v5.1 1 5 (by decide)).trans (s3'.trans (Ulo 120 (by decide) (by omega) (by decide)).symm)
          · exact (v5.1 1 6 (by decide)).trans (s4.trans (Ulo 2 (by decide) (by omega) (by decide)).symm)
          · exact (v5.1 1 7 (by decide)).trans (s5.trans (Ulo 121 (by decide) (by omega) (by decide)).symm)
          · exact (v5.1 1 8 (by decide)).trans (s6.trans (Ulo 122 (by decide) (by omega) (by decide)).symm)
          · exact (v5.1 1 9 (by decide)).trans (s7.trans (Ulo 3 (by decide) (by omega) (by decide)).symm)
          · exact (v5.1 1 10 (by decide)).trans (s8.trans (Ulo 4 (by decide) (by omega) (by decide)).symm)
          · exact (v5.1 1 12 (by decide)).trans (s9.trans (Ulo 5 (by decide) (by omega) (by decide)).symm)
          · intro i hi
            show eA h5 1 0 i = _
            by_cases ci : i < 9 * c
            · rw [v4 i ci, Ulo _ (by omega) (by omega) (by omega)]
              exact ge i (by omega)
            · rw [show i = 9 * c + (i - 9 * c) by omega, v3 (i - 9 * c) (by omega)]
              exact (T30 (i - 9 * c) (by omega)).symm
          · show MKT (eA h5 1 1) B
            rw [v5.2.1 1 1 (by decide)]
            intro i hi
            rw [Ulo 0 (by decide) (by omega) (by decide)] at hi
            rw [Ulo _ (by omega) (by omega) (by omega)]
            exact mk i hi
          · show 0 ≤ (eI h5 1 11).toInt ∧ (eI h5 1 11).toInt < 20
            rw [v5.1 1 11 (by decide)]; exact f0
          · show STEPS (eA h5 1 2) B (eI h5 1 11).toInt.toNat (B 5).toInt.toNat
            rw [v5.2.1 1 2 (by decide), v5.1 1 11 (by decide), Ulo 5 (by decide) (by omega) (by decide)]
            have Nn : (eA g 0 0 5).toInt.toNat = N := by omega
            rw [Nn] at st ⊢
            intro j hj
            obtain ⟨x1, x2, x3, x4, x5, x6⟩ := st j hj
            refine ⟨⟨x1.1, by omega⟩, fun i hi => ?_, fun i q1 q2 => ?_, ?_, ?_, ?_⟩
            · rw [UR j i hj (by omega) (by omega)]
              exact x2 i hi
            · by_cases ci : i < 9 * c
              · rw [UR j i hj (by omega) (by omega), x3 i q1 (by omega)]
                unfold nxr
                by_cases cn : j + 1 < N
                · rw [if_pos cn]; exact (UR (j + 1) i cn (by omega) (by omega)).symm
                · rw [if_neg cn]; exact (Ulo _ (by omega) (by omega) (by omega)).symm
              · rw [show i = 9 * c + (i - 9 * c) by omega]
                refine (TJ j (i - 9 * c) hj (by omega)).trans ?_
                unfold nxr
                by_cases cn : j + 1 < N
                · rw [if_pos cn]; exact (TJ (j + 1) (i - 9 * c) cn (by omega)).symm
                · rw [if_neg cn]; exact (T30 (i - 9 * c) (by omega)).symm
            · rw [UR j 90 hj (by decide) (by omega)]; exact x4
            · rw [UR j 91 hj (by decide) (by omega)]; exact x5
            · rw [UR j 92 hj (by decide) (by omega)]; exact x6
        · rw [hB]
          have L0 : B 0 = eA g 0 0 0 := Ulo 0 (by decide) (by omega) (by decide)
          refine ⟨?_, ?_, ⟨?_, ?_, fun p hp => ?_⟩, fun j hj => ⟨?_, ?_, fun p hp => ?_⟩⟩
          · unfold RN
            rw [B1, L0, Ulo 5 (by decide) (by omega) (by decide), Ulo 3 (by decide) (by omega) (by decide), Ulo 4 (by decide) (by omega) (by decide), Ulo 2 (by decide) (by omega) (by decide)]
            omega
          · intro m hm
            rw [L0] at hm
            rw [Ulo _ (by omega) (by omega) (by omega), Ulo _ (by omega) (by omega) (by omega), Ulo _ (by omega) (by omega) (by omega)]
            exact r2' m hm
          · show 0 ≤ (B 120).toInt
            rw [Ulo 120 (by decide) (by omega) (by decide)]; exact r3''.1
          · show 0 ≤ (B 121).toInt ∧ (B 121).toInt ≤ 999
            rw [Ulo 121 (by decide) (by omega) (by decide)]; exact r3''.2.1
          · by_cases cp : p = c
            · subst cp; exact tv_GR T30 (by omega) (by omega)
            · rw [L0]
              exact GR_eq (r3''.2.2 p (by omega)) (fun k hk => Ulo _ (by omega) (by omega) (by omega)) (Int.le_refl _)
          · rw [Ulo 5 (by decide) (by omega) (by decide)] at hj
            rw [UR j 90 (by omega) (by decide) (by omega)]; exact (r4' j hj).1
          · rw [Ulo 5 (by decide) (by omega) (by decide)] at hj
            rw [UR j 91 (by omega) (by decide) (by omega)]; exact (r4' j hj).2.1
          · rw [Ulo 5 (by decide) (by omega) (by decide)] at hj
            by_cases cp : p = c
            · subst cp; exact tv_GR (fun k hk => TJ j k (by omega) hk) (by omega) (by omega)
            · rw [L0]
              exact GR_eq ((r4' j hj).2.2 p (by omega)) (fun k hk => UR j _ (by omega) (by omega) (by omega)) (Int.le_refl _)
