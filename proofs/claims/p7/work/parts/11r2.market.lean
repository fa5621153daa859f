/-! the laws of the market -/
def NMT (nm : Nat → Int32) (p : Int32) (A : Nat → Int32) (q m : Nat) : Prop := nm 0 = p ∧ nm 1 = gc A 30 q 0 ∧ nm 2 = gc A 30 q 1 ∧ nm 3 = gc A 30 q 2 ∧ nm 4 = gc A 30 q 3 ∧ nm 5 = gc A 30 q 6 ∧ nm 6 = gc A 30 q 5 ∧ nm 7 = A (10 + (3 * m + 1)) ∧ nm 8 = A (10 + (3 * m + 2))
theorem cp_lookTrav {h h1 g : HS} {p : Int32} {q m : Nat} (s : STD h g) (e : f_X1_lookAtTraveller h p = some h1) (hp : p.toInt = (q : Int)) (hq : (q : Int) < (eA g 0 0 1).toInt) (hm : (gc (eA g 0 0) 30 q 5).toInt = (m : Int)) (m0 : (m : Int) < (eA g 0 0 0).toInt) : NMT (eA h1 6 1) p (eA g 0 0) q m := by
  obtain ⟨n1, n0, n4⟩ := std_n s
  have s3 : eI h 1 3 = eA g 0 0 1 := s.1.1.1
  have s4 : eI h 1 4 = eA g 0 0 0 := s.1.1.2.1
  unfold f_X1_lookAtTraveller at e
  obtain ⟨h2, a2, e⟩ := ob1_some e
  have lk := cp_lookAt (q := q) a2 hp (by rw [s3]; exact hq) (by rw [s3]; exact n1.2)
  have f2 := w_f_X1_lookAt _ _ _ a2
  have t3 : eI h2 1 3 = eA g 0 0 1 := (f2.1 1 3 (by decide)).trans s3
  have t4 : eI h2 1 4 = eA g 0 0 0 := (f2.1 1 4 (by decide)).trans s4
  have t0 : eA h2 1 0 = eA h 1 0 := f2.2.1 1 0 (by decide)
  have t1 : eA h2 1 1 = eA h 1 1 := f2.2.1 1 1 (by decide)
  obtain ⟨r3, h3, a3, e⟩ := ob2_some e
  obtain ⟨rfl, rfl⟩ := pr_inj (cp_ofGoose (q := q) (k := 5) a3 hp rfl (by rw [t3]; exact hq) (by rw [t3]; exact n1.2) (by decide))
  obtain ⟨r4, h4, a4, e⟩ := ob2_some e
  obtain ⟨rfl, rfl⟩ := pr_inj (cp_ofGoose (q := q) (k := 6) a4 hp rfl (by rw [t3]; exact hq) (by rw [t3]; exact n1.2) (by decide))
  obtain ⟨h5, a5, e⟩ := ob1_some e
  cases e
  have g5 : eA h2 1 0 (9 * q + 5) = gc (eA g 0 0) 30 q 5 := by rw [t0]; exact sr_g s.1 hq (by decide)
  have g6 : eA h2 1 0 (9 * q + 6) = gc (eA g 0 0) 30 q 6 := by rw [t0]; exact sr_g s.1 hq (by decide)
  rw [g5, g6] at a5
  unfold f_X1_lookAtMarket at a5
  obtain ⟨r6, h6, a6, a5⟩ := ob2_some a5
  obtain ⟨rfl, rfl⟩ := pr_inj (cp_ofMarket (q := m) (k := 1) a6 hm rfl (by show (m : Int) < (eI h2 1 4).toInt; rw [t4]; exact m0) (by show (eI h2 1 4).toInt ≤ 4; rw [t4]; exact n0.2) (by decide))
  obtain ⟨r7, h7, a7, a5⟩ := ob2_some a5
  obtain ⟨rfl, rfl⟩ := pr_inj (cp_ofMarket (q := m) (k := 2) a7 hm rfl (by show (m : Int) < (eI h2 1 4).toInt; rw [t4]; exact m0) (by show (eI h2 1 4).toInt ≤ 4; rw [t4]; exact n0.2) (by decide))
  cases a5
  have w1 : eA h2 1 1 (3 * m + 1) = eA g 0 0 (10 + (3 * m + 1)) := by rw [t1]; exact sr_m s.1 m0 (by decide)
  have w2 : eA h2 1 1 (3 * m + 2) = eA g 0 0 (10 + (3 * m + 2)) := by rw [t1]; exact sr_m s.1 m0 (by decide)
  have b0 := sr_g s.1 hq (show 0 < 9 by decide)
  have b1 := sr_g s.1 hq (show 1 < 9 by decide)
  have b2 := sr_g s.1 hq (show 2 < 9 by decide)
  have b3 := sr_g s.1 hq (show 3 < 9 by decide)
  have L : ∀ k : Nat, eA h2 6 1 k = LK (eA h 6 1) p (eA h 1 0 (9 * q + 0)) (eA h 1 0 (9 * q + 1)) (eA h 1 0 (9 * q + 2)) (eA h 1 0 (9 * q + 3)) (eI h 1 7) k := fun k => by rw [lk]
  refine ⟨L 0, (L 1).trans b0, (L 2).trans b1, (L 3).trans b2, (L 4).trans b3, rfl, rfl, w1, w2⟩
theorem j_market {h g : HS} {p lw : Int32} {q m : Nat} {r w : Int32 × HS} (s : STD h g) (hl : lw = 0 ∨ lw = 1) (hp : p.toInt = (q : Int)) (hq : (q : Int) < (eA g 0 0 1).toInt) (hm : (gc (eA g 0 0) 30 q 5).toInt = (m : Int)) (m0 : (m : Int) < (eA g 0 0 0).toInt) (nt : NMT (eA h 6 1) p (eA g 0 0) q m) (e1 : f_X1_rule h lw = some r) (e2 : f_X9_marketOf g lw p = some w) : r.1 = w.1 := by
  have y10 : (10 : Int32).toInt = 10 := rfl
  have y3 : (3 : Int32).toInt = 3 := rfl
  have y1 : (1 : Int32).toInt = 1 := rfl
  have y2 : (2 : Int32).toInt = 2 := rfl
  obtain ⟨n1, n0, n4⟩ := std_n s
  have l0 : 0 ≤ lw.toInt ∧ lw.toInt ≤ 1 := by rcases hl with h | h <;> rw [h] <;> decide
  unfold f_X9_marketOf at e2
  obtain ⟨r1, g1, a1, e2⟩ := ob2_some e2
  obtain ⟨rfl, rfl⟩ := pr_inj (mp_ofGoose (q := q) (k := 2) a1 hp rfl (by omega) (by decide))
  obtain ⟨r2, g2, a2, e2⟩ := ob2_some e2
  obtain ⟨rfl, rfl⟩ := pr_inj (mp_ofGoose (q := q) (k := 3) a2 hp rfl (by omega) (by decide))
  obtain ⟨r3, g3, a3, e2⟩ := ob2_some e2
  obtain ⟨rfl, rfl⟩ := pr_inj (mp_ofGoose (q := q) (k := 5) a3 hp rfl (by omega) (by decide))
  obtain ⟨r4, g4, a4, e2⟩ := ob2_some e2
  obtain ⟨rfl, rfl⟩ := pr_inj (mp_ofGoose (q := q) (k := 6) a4 hp rfl (by omega) (by decide))
  obtain ⟨r5, g5, a5, e2⟩ := ob2_some e2
  cases e2
  show r.1 = r5
  have m3 : (3 * gc (eA g 0 0) 30 q 5).toInt = 3 * (gc (eA g 0 0) 30 q 5).toInt := fb_mulJ rfl (by omega) (by omega)
  have m4 := fb_addI (x := 10) (y := 3 * gc (eA g 0 0) 30 q 5) (by omega) (by omega)
  have m5 := fb_addI (x := 10 + 3 * gc (eA g 0 0) 30 q 5) (y := 1) (by omega) (by omega)
  have m6 := fb_addI (x := 10 + 3 * gc (eA g 0 0) 30 q 5) (y := 2) (by omega) (by omega)
  have i1 : (10 + 3 * gc (eA g 0 0) 30 q 5 + 1).toNatClampNeg = 10 + (3 * m + 1) := by show (10 + 3 * gc (eA g 0 0) 30 q 5 + 1).toInt.toNat = _; omega
  have i2 : (10 + 3 * gc (eA g 0 0) 30 q 5 + 2).toNatClampNeg = 10 + (3 * m + 2) := by show (10 + 3 * gc (eA g 0 0) 30 q 5 + 2).toInt.toNat = _; omega
  unfold f_X9_marketTells at a5
  obtain ⟨-, a5⟩ := ob_if a5
  obtain ⟨-, a5⟩ := ob_if a5
  rw [i1, i2] at a5
  obtain ⟨r6, g6, a6, a5⟩ := ob2_some a5
  obtain ⟨u1, u2⟩ := rule_both (lw := lw) l0.1 (by omega) s.1.1.2.2.2.2.2.2.2.1 n4 s.2.2 e1 a6
  have u1 : g = g6 := u1.symm
  subst u1
  obtain ⟨t0, t1, t2, t3, t4, t5, t6, t7, t8⟩ := nt
  rcases u2 with ⟨u2, v0, v1, -⟩ | ⟨u2, u3⟩
  · have u2 : r6 = -1 := u2
    rw [if_pos u2] at a5
    unfold f_X9_marketTells_56 at a5
    by_cases c0 : lw = 0
    · rw [if_pos c0] at a5
      cases a5
      exact (v0 c0).trans t7
    · rw [if_neg c0] at a5
      cases a5
      rcases hl with h | h
      · exact absurd h c0
      · exact (v1 h).trans t8
  · have u2 : ¬ r6 = -1 := u2
    rw [if_neg u2] at a5
    obtain ⟨g7, a7, a5⟩ := ob1_some a5
    obtain ⟨r8, g8, a8, a5⟩ := ob2_some a5
    obtain ⟨r9, a9, a5⟩ := ob1_some a5
    cases a5
    have nm := mp_names (q := q) a7 hp (by omega)
    have f7 := w_f_X9_names _ _ _ _ _ _ a7
    have mb := std_mb s hq
    have mr := s.2.1.2.1 m m0
    have sy := u3 _ _ a8 (Fr_trans (Fr_mono (by decide) f7) (Fr_sA (by decide) (Fr_sA (by decide) (Fr_sA (by decide) (Fr_refl _ _))))) (fun k k9 _ => ?_)
    · obtain ⟨v1, v2, v3, v4⟩ := sy
      have v4 : r.1.toInt = hldI r8.toInt 10 := v4 (by omega)
      have v5 : r5.toInt = hldI r8.toInt 10 := by
        rcases held_ok a9 with v | v
        · exact v
        · omega
      exact gi_eq (v4.trans v5.symm)
    · show eA h 6 1 k = upd (upd (upd (eA g7 0 39) 6 (gc (eA g 0 0) 30 q 5)) 7 (eA g 0 0 (10 + (3 * m + 1)))) 8 (eA g 0 0 (10 + (3 * m + 2))) k ∧ MB (eA h 6 1 k).toInt
      rw [nm]
      unfold MB at mb ⊢
      match k, k9 with
      | 0, _ => exact ⟨t0, by rw [t0]; omega⟩
      | 1, _ => exact ⟨t1, by rw [t1]; omega⟩
      | 2, _ => exact ⟨t2, by rw [t2]; omega⟩
      | 3, _ => exact ⟨t3, by rw [t3]; omega⟩
      | 4, _ => exact ⟨t4, by rw [t4]; omega⟩
      | 5, _ => exact ⟨t5, by rw [t5]; omega⟩
      | 6, _ => exact ⟨t6, by rw [t6]; omega⟩
      | 7, _ => exact ⟨t7, by rw [t7]; omega⟩
      | 8, _ => exact ⟨t8, by rw [t8]; omega⟩
/-! the code: is she true? -/
theorem j_code {h h1 g : HS} {p f l r : Int32} {z w : Int32 × HS} {q : Nat} (s : STD h g) (hp : p.toInt = (q : Int)) (hq : (q : Int) < (eA g 0 0 1).toInt) (hl : l = gc (eA g 0 0) 30 q 2) (hr : r = gc (eA g 0 0) 30 q 3) (hf : MB f.toInt) (fr : Fr [(1, 6, 1)] h h1) (nm : ∀ k : Nat, k < 6 → eA h1 6 1 k = upd (LK (eA h 6 1) p (gc (eA g 0 0) 30 q 0) (gc (eA g 0 0) 30 q 1) (gc (eA g 0 0) 30 q 2) (gc (eA g 0 0) 30 q 3) (eA g 0 0 121)) 2 f k) (e1 : f_X1_rule h1 3 = some z) (e2 : f_X9_isTrueBy g p l r f = some w) : (z.1 = 0 ∧ w.1 = 0) ∨ (¬ z.1 = 0 ∧ w.1 = 1) := by
  have y0 : (0 : Int64).toInt = 0 := rfl
  have z0 : (0 : Int32).toInt = 0 := rfl
  subst hl
  subst hr
  obtain ⟨n1, n0, n4⟩ := std_n s
  unfold f_X9_isTrueBy f_X9_isTrueBy_53 at e2
  obtain ⟨r1, g1, b1, e2⟩ := ob2_some e2
  have tx1 : TXS h1 g (eA g 0 0 3).toInt := TXS_fr s.2.2 fr (Fr_refl [] g) (by decide) (by decide)
  obtain ⟨u1, u2⟩ := rule_both (h := h1) (lw := 3) (by decide) (by decide) (by rw [fr.1 1 10 (by decide)]; exact s.1.1.2.2.2.2.2.2.2.1) n4 tx1 e1 b1
  have u1 : g = g1 := u1.symm
  subst u1
  rcases u2 with ⟨u2, -, -, u3⟩ | ⟨u2, u3⟩
  · have u2 : r1 = -1 := u2
    rw [if_pos u2] at e2
    cases e2
    right
    exact ⟨by rw [u3 (by decide) (by decide)]; decide, rfl⟩
  · have u2 : ¬ r1 = -1 := u2
    rw [if_neg u2] at e2
    obtain ⟨g3, b3, e2⟩ := ob1_some e2
    obtain ⟨r4, g4, b4, e2⟩ := ob2_some e2
    have nmr := mp_names (q := q) b3 hp (by omega)
    have f3 := w_f_X9_names _ _ _ _ _ _ b3
    have m := std_mb s hq
    have sy := u3 _ (r4, g4) b4 (Fr_trans (Fr_mono (by decide) f3) (Fr_sA (by decide) (Fr_refl _ _))) (fun k _ hk => ?_)
    · obtain ⟨v1, v2, v3, v4⟩ := sy
      have v2 : r4.toInt = 0 ∨ r4.toInt = 1 := v2 rfl
      have v4 : z.1.toInt = hldI r4.toInt 10 := v4 (by decide)
      rcases v2 with v | v
      · have c : lg_cmp r4 0 ≤ 0 := (lg_cmp_le _ _).mpr (Int64.le_iff_toInt_le.mpr (by omega))
        rw [if_pos c, if_pos (Or.inl rfl)] at e2
        cases e2
        left
        rw [v] at v4
        exact ⟨gi_eq v4, rfl⟩
      · have c : ¬ lg_cmp r4 0 ≤ 0 := fun c => by have := q_le c; omega
        rw [if_neg c, if_pos (Or.inr rfl)] at e2
        cases e2
        right
        rw [v] at v4
        refine ⟨gi_ne ?_, rfl⟩
        rw [v4]
        decide
    · have k6 : k < 6 := hk (by decide)
      show eA h1 6 1 k = upd (eA g3 0 39) 2 f k ∧ MB (eA h1 6 1 k).toInt
      rw [nm k k6, nmr]
      have la := LK_agree (a := eA h 6 1) (b := eA g 0 39) (p := p) (w := gc (eA g 0 0) 30 q 0) (f := gc (eA g 0 0) 30 q 1) (l := gc (eA g 0 0) 30 q 2) (r := gc (eA g 0 0) 30 q 3) (d := eA g 0 0 121) (by unfold MB; omega) m.1 m.2.1 m.2.2.1 m.2.2.2.1 m.2.2.2.2.2.2 k6
      unfold upd
      by_cases c2 : k = 2
      · rw [if_pos c2, if_pos c2]; exact ⟨rfl, hf⟩
      · rw [if_neg c2, if_neg c2]; exact la
