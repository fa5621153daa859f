/-! the deeds -/
theorem FIN {h3 h' g5 : HS} {B : Nat → Int32} {q : Nat} (t1 : SRel h3 1 (eA g5 0 0)) (t2 : RG (eA g5 0 0)) (t3 : SFul h3 (eA g5 0 0)) (hq : (q : Int) < (eA g5 0 0 1).toInt) (u : ∀ k : Nat, (∀ c : Nat, c < 9 → ¬ k = 30 + (9 * q + c)) → ¬ k = 120 → B k = eA g5 0 0 k) (fr : Fr [(1, 1, 0), (0, 1, 5)] h3 h') (ge : GEE (eA h' 1 0) B) (i5 : eI h' 1 5 = B 120) (b0 : 0 ≤ (B 120).toInt) (gr : GR (eA g5 0 0) 30 q (eA g5 0 0 0).toInt → GR B 30 q (eA g5 0 0 0).toInt) : SRel h' 1 B ∧ SFul h' B ∧ RG B := by
  have n1 := t2.1.1
  have sc := t1.1
  have lo : ∀ k : Nat, k < 30 → B k = eA g5 0 0 k := fun k hk => u k (fun c hc => by omega) (by omega)
  have hi : ∀ k : Nat, 130 ≤ k → B k = eA g5 0 0 k := fun k hk => u k (fun c hc => by omega) (by omega)
  have u1 : B 121 = eA g5 0 0 121 := u 121 (fun c hc => by omega) (by omega)
  have u2 : B 122 = eA g5 0 0 122 := u 122 (fun c hc => by omega) (by omega)
  have E := SR_edit t1 t3 n1.2 lo hi (fr.2.1 1 2 (by decide)) (fr.1 1 11 (by decide)) (fr.2.1 1 1 (by decide)) (fr.1 1 3 (by decide)) (fr.1 1 4 (by decide)) i5 (fr.1 1 6 (by decide)) ((fr.1 1 7 (by decide)).trans (sc.2.2.2.2.1.trans u1.symm)) ((fr.1 1 8 (by decide)).trans (sc.2.2.2.2.2.1.trans u2.symm)) (fr.1 1 9 (by decide)) (fr.1 1 10 (by decide)) (fr.1 1 12 (by decide)) ge t2.1.2.1.2
  refine ⟨E.1, E.2, RG_edit (q := q) t2 lo hi (fun p k hk hp hp2 => ?_) (fun hq2 => gr (t2.2.2.1.2.2 q hq2)) b0 ?_⟩
  · exact u _ (fun c hc => by omega) (by omega)
  · rw [u1]; exact t2.2.2.1.2.1
theorem GEE_out {s A : Nat → Int32} {a : Nat} {v : Int32} (x : GEE s A) (n : (A 1).toInt ≤ 10) (ha : ¬ a = 1) (hb : a < 30 ∨ 120 ≤ a) : GEE s (upd A a v) := by
  intro i hi
  have e1 : upd A a v 1 = A 1 := by unfold upd; rw [if_neg (by omega)]
  rw [e1] at hi
  have e2 : upd A a v (30 + i) = A (30 + i) := by unfold upd; rw [if_neg (by omega)]
  rw [e2]
  exact x i hi
theorem ud_ne {A : Nat → Int32} {a k : Nat} {v : Int32} (n : ¬ k = a) : upd A a v k = A k := by unfold upd; rw [if_neg n]
theorem ud_eq {A : Nat → Int32} {a : Nat} {v : Int32} : upd A a v a = v := by unfold upd; rw [if_pos rfl]
theorem mp_mk0 {p : Int32} {m : Nat} (hp : p.toInt = (m : Int)) (hm : m < 4) : (10 + 3 * p).toNatClampNeg = 10 + (3 * m + 0) := by
  have z : (10 : Int32).toInt = 10 := rfl
  have e1 : (3 * p).toInt = 3 * p.toInt := fb_mulJ rfl (by omega) (by omega)
  have e2 := fb_addI (x := 10) (y := 3 * p) (by omega) (by omega)
  show (10 + 3 * p).toInt.toNat = _
  omega
theorem j_pluck {h g : HS} {p : Int32} {z w : Int32 × HS} (sr : SRel h 1 (eA g 0 0)) (rg : RG (eA g 0 0)) (e1 : f_X8_pluck h p = some z) (e2 : f_X9_pluck g p = some w) : DONE h g z w := by
  have y0 : (0 : Int32).toInt = 0 := rfl
  have y1 : (1 : Int32).toInt = 1 := rfl
  obtain ⟨⟨n1, n0, -⟩, -, rw0, -⟩ := id rg
  have s3 : eI h 1 3 = eA g 0 0 1 := sr.1.1
  unfold f_X8_pluck f_X8_pluck_24 at e1
  obtain ⟨r1, h1, a1, e1⟩ := ob2_some e1
  obtain ⟨k1, k2⟩ := cp_isHome a1 (by rw [s3]; exact n1.2)
  have k1 : h = h1 := k1.symm
  subst k1
  rw [s3] at k2
  unfold f_X9_pluck f_X9_pluck_17 at e2
  obtain ⟨r2, g2, a2, e2⟩ := ob2_some e2
  obtain ⟨m1, m2⟩ := mp_isHome a2 n1
  have m1 : g = g2 := m1.symm
  subst m1
  rcases m2 with ⟨m2, q, q1, q2, q3⟩ | ⟨m2, m3⟩
  · have m2 : r2 = 1 := m2
    rw [if_neg (by rw [m2]; decide)] at e2
    obtain ⟨r3, g3, a3, e2⟩ := ob2_some e2
    obtain ⟨rfl, rfl⟩ := pr_inj (mp_ofGoose (q := q) (k := 1) a3 q1 rfl (by omega) (by decide))
    have gr := rw0.2.2 q q2
    have c4 := sr_g sr q2 (show 4 < 9 by decide)
    have c1 := sr_g sr q2 (show 1 < 9 by decide)
    rcases k2 with ⟨k2, -⟩ | ⟨-, k3⟩
    · have k2 : r1 = 1 := k2
      rw [if_neg (by rw [k2]; decide)] at e1
      obtain ⟨r4, h4, b4, e1⟩ := ob2_some e1
      obtain ⟨rfl, rfl⟩ := pr_inj (cp_ofGoose (q := q) (k := 1) b4 q1 rfl (by rw [s3]; exact q2) (by rw [s3]; exact n1.2) (by decide))
      rw [c1] at e1
      by_cases c : gc (eA g 0 0) 30 q 1 = 0
      · rw [if_pos c] at e2
        have dc := gi_of_eq c
        rw [if_neg (gi_nle (by omega))] at e1
        cases e1
        cases e2
        exact DONE_no sr rg
      · rw [if_neg c] at e2
        have dc := gi_of_ne c
        have gf : 1 ≤ (gc (eA g 0 0) 30 q 1).toInt := by unfold GR at gr; omega
        rw [if_pos (gi_le (by omega))] at e1
        obtain ⟨h3, b3, e1⟩ := ob1_some e1
        obtain ⟨g5, a5, e2⟩ := ob1_some e2
        obtain ⟨t1, t2, t3, t4, t5, t6⟩ := j_keep sr rg b3 a5
        have s1 : eA g5 0 0 1 = eA g 0 0 1 := t4 1 (by decide) (by decide)
        have h13 : eI h3 1 3 = eA g5 0 0 1 := t1.1.1
        have q5 : (q : Int) < (eA g5 0 0 1).toInt := by rw [s1]; exact q2
        obtain ⟨r6, h6, b6, e1⟩ := ob2_some e1
        obtain ⟨rfl, rfl⟩ := pr_inj (cp_ofGoose (q := q) (k := 1) b6 q1 rfl (by rw [h13]; exact q5) (by rw [h13, s1]; exact n1.2) (by decide))
        obtain ⟨h7, b7, e1⟩ := ob1_some e1
        have hE := cp_setGoose (q := q) (k := 1) b7 q1 rfl (by rw [h13]; exact q5) (by rw [h13, s1]; exact n1.2) (by decide)
        subst hE
        obtain ⟨r8, h8, b8, e1⟩ := ob2_some e1
        obtain ⟨rfl, rfl⟩ := pr_inj (cp_ofGoose (q := q) (k := 1) b8 q1 rfl (by show (q : Int) < (eI h3 1 3).toInt; rw [h13]; exact q5) (by show (eI h3 1 3).toInt ≤ 10; rw [h13, s1]; exact n1.2) (by decide))
        cases e1
        obtain ⟨r7, g7, a7, e2⟩ := ob2_some e2
        obtain ⟨rfl, rfl⟩ := pr_inj (mp_ofGoose (q := q) (k := 1) a7 q1 rfl (by omega) (by decide))
        obtain ⟨g8, a8, e2⟩ := ob1_some e2
        have gE := mp_puts (q := q) (k := 1) a8 q1 rfl (by omega) (by decide)
        subst gE
        obtain ⟨r9, g9, a9, e2⟩ := ob2_some e2
        obtain ⟨rfl, rfl⟩ := pr_inj (mp_ofGoose (q := q) (k := 1) a9 q1 rfl (by omega) (by decide))
        cases e2
        have c15 : eA h3 1 0 (9 * q + 1) = gc (eA g5 0 0) 30 q 1 := sr_g t1 q5 (show 1 < 9 by decide)
        have same : gc (eA g5 0 0) 30 q 1 = gc (eA g 0 0) 30 q 1 := t4 _ (by omega) (by omega)
        have vs := fb_subI (x := gc (eA g5 0 0) 30 q 1) (y := 1) (by rw [same]; omega) (by rw [same]; have := fb_rng (gc (eA g 0 0) 30 q 1); omega)
        have R := FIN (h' := sA h3 1 0 (upd (eA h3 1 0) (9 * q + 1) (eA h3 1 0 (9 * q + 1) - 1))) (B := upd (eA g5 0 0) (30 + (9 * q + 1)) (gc (eA g5 0 0) 30 q 1 - 1)) t1 t2 t3 q5 (fun k hc _ => by unfold upd; rw [if_neg (hc 1 (by decide))]) (Fr_sA (by decide) (Fr_refl _ _)) (by rw [c15]; exact GEE_upd t1.2.1 (by omega)) (by show eI h3 1 5 = upd _ _ _ 120; unfold upd; rw [if_neg (by omega)]; exact t1.1.2.2.1) (by unfold upd; rw [if_neg (by omega)]; exact t2.2.2.1.1) (fun gr5 => by
          unfold GR at gr5 ⊢
          simp (disch := omega) only [gc_upd_ne, gc_upd_eq]
          rw [same] at *
          omega)
        refine ⟨?_, R.1, R.2.2⟩
        show upd (eA h3 1 0) (9 * q + 1) (eA h3 1 0 (9 * q + 1) - 1) (9 * q + 1) = gc (upd (eA g5 0 0) (30 + (9 * q + 1)) (gc (eA g5 0 0) 30 q 1 - 1)) 30 q 1
        rw [gc_upd_eq, c15]
        unfold upd
        rw [if_pos rfl]
    · exact absurd (c4.trans q3) (k3 q q1 q2)
  · have m2 : r2 = 0 := m2
    rw [if_pos m2] at e2
    cases e2
    rcases k2 with ⟨-, q', q1', q2', k4⟩ | ⟨k2, -⟩
    · exact absurd ((sr_g sr q2' (show 4 < 9 by decide)).symm.trans k4) (m3 q' q1' q2')
    · have k2 : r1 = 0 := k2
      rw [if_pos k2] at e1
      cases e1
      exact DONE_no sr rg
theorem j_fatten {h g : HS} {p : Int32} {z w : Int32 × HS} (sr : SRel h 1 (eA g 0 0)) (rg : RG (eA g 0 0)) (e1 : f_X8_fatten h p = some z) (e2 : f_X9_fatten g p = some w) : DONE h g z w := by
  have y0 : (0 : Int32).toInt = 0 := rfl
  have y1 : (1 : Int32).toInt = 1 := rfl
  have y20 : (20 : Int32).toInt = 20 := rfl
  obtain ⟨⟨n1, n0, -⟩, -, rw0, -⟩ := id rg
  have s3 : eI h 1 3 = eA g 0 0 1 := sr.1.1
  have s5 : eI h 1 5 = eA g 0 0 120 := sr.1.2.2.1
  have g120 : 0 ≤ (eA g 0 0 120).toInt := rw0.1
  unfold f_X8_fatten f_X8_fatten_36 at e1
  obtain ⟨r1, h1, a1, e1⟩ := ob2_some e1
  obtain ⟨k1, k2⟩ := cp_isHome a1 (by rw [s3]; exact n1.2)
  have k1 : h = h1 := k1.symm
  subst k1
  rw [s3] at k2
  unfold f_X9_fatten f_X9_fatten_29 at e2
  obtain ⟨r2, g2, a2, e2⟩ := ob2_some e2
  obtain ⟨m1, m2⟩ := mp_isHome a2 n1
  have m1 : g = g2 := m1.symm
  subst m1
  rcases m2 with ⟨m2, q, q1, q2, q3⟩ | ⟨m2, m3⟩
  · have m2 : r2 = 1 := m2
    rw [if_neg (by rw [m2]; decide)] at e2
    obtain ⟨r3, g3, a3, e2⟩ := ob2_some e2
    obtain ⟨rfl, rfl⟩ := pr_inj (mp_ofGoose (q := q) (k := 0) a3 q1 rfl (by omega) (by decide))
    have gr := rw0.2.2 q q2
    have gw : 0 ≤ (gc (eA g 0 0) 30 q 0).toInt ∧ (gc (eA g 0 0) 30 q 0).toInt ≤ 20 := gr.1
    have c4 := sr_g sr q2 (show 4 < 9 by decide)
    have c0 := sr_g sr q2 (show 0 < 9 by decide)
    rcases k2 with ⟨k2, -⟩ | ⟨-, k3⟩
    · have k2 : r1 = 1 := k2
      rw [if_neg (by rw [k2]; decide)] at e1
      obtain ⟨r4, h4, b4, e1⟩ := ob2_some e1
      obtain ⟨rfl, rfl⟩ := pr_inj (cp_ofGoose (q := q) (k := 0) b4 q1 rfl (by rw [s3]; exact q2) (by rw [s3]; exact n1.2) (by decide))
      rw [c0, s5] at e1
      by_cases c : gc (eA g 0 0) 30 q 0 = 20
      · rw [if_pos c] at e2
        have dc := gi_of_eq c
        rw [if_pos (gi_le (by omega))] at e1
        cases e1
        cases e2
        exact DONE_no sr rg
      · rw [if_neg c] at e2
        have dc := gi_of_ne c
        rw [if_neg (gi_nle (by omega))] at e1
        by_cases cg : eA g 0 0 120 = 0
        · rw [if_pos cg] at e2
          have dg := gi_of_eq cg
          rw [if_neg (gi_nle (by omega))] at e1
          cases e1
          cases e2
          exact DONE_no sr rg
        · rw [if_neg cg] at e2
          have dg := gi_of_ne cg
          rw [if_pos (gi_le (by omega))] at e1
          obtain ⟨h3, b3, e1⟩ := ob1_some e1
          obtain ⟨g5, a5, e2⟩ := ob1_some e2
          obtain ⟨t1, t2, t3, t4, t5, t6⟩ := j_keep sr rg b3 a5
          have s1 : eA g5 0 0 1 = eA g 0 0 1 := t4 1 (by decide) (by decide)
          have s120 : eA g5 0 0 120 = eA g 0 0 120 := t4 120 (by decide) (by decide)
          have h13 : eI h3 1 3 = eA g5 0 0 1 := t1.1.1
          have h15 : eI h3 1 5 = eA g5 0 0 120 := t1.1.2.2.1
          have q5 : (q : Int) < (eA g5 0 0 1).toInt := by rw [s1]; exact q2
          obtain ⟨r6, h6, b6, e1⟩ := ob2_some e1
          obtain ⟨rfl, rfl⟩ := pr_inj (cp_ofGoose (q := q) (k := 0) b6 q1 rfl (by show (q : Int) < (eI h3 1 3).toInt; rw [h13]; exact q5) (by show (eI h3 1 3).toInt ≤ 10; rw [h13, s1]; exact n1.2) (by decide))
          obtain ⟨h7, b7, e1⟩ := ob1_some e1
          have hE := cp_setGoose (q := q) (k := 0) b7 q1 rfl (by show (q : Int) < (eI h3 1 3).toInt; rw [h13]; exact q5) (by show (eI h3 1 3).toInt ≤ 10; rw [h13, s1]; exact n1.2) (by decide)
          subst hE
          obtain ⟨r8, h8, b8, e1⟩ := ob2_some e1
          obtain ⟨rfl, rfl⟩ := pr_inj (cp_ofGoose (q := q) (k := 0) b8 q1 rfl (by show (q : Int) < (eI h3 1 3).toInt; rw [h13]; exact q5) (by show (eI h3 1 3).toInt ≤ 10; rw [h13, s1]; exact n1.2) (by decide))
          cases e1
          obtain ⟨r7, g7, a7, e2⟩ := ob2_some e2
          obtain ⟨rfl, rfl⟩ := pr_inj (mp_ofGoose (q := q) (k := 0) a7 q1 rfl (by omega) (by decide))
          obtain ⟨g8, a8, e2⟩ := ob1_some e2
          have gE := mp_puts (q := q) (k := 0) a8 q1 rfl (by omega) (by decide)
          subst gE
          obtain ⟨r9, g9, a9, e2⟩ := ob2_some e2
          obtain ⟨rfl, rfl⟩ := pr_inj (mp_ofGoose (q := q) (k := 0) a9 q1 rfl (by omega) (by decide))
          cases e2
          have c05 : eA h3 1 0 (9 * q + 0) = gc (eA g5 0 0) 30 q 0 := sr_g t1 q5 (show 0 < 9 by decide)
          have same : gc (eA g5 0 0) 30 q 0 = gc (eA g 0 0) 30 q 0 := t4 _ (by omega) (by omega)
          have vs := fb_addI (x := gc (eA g5 0 0) 30 q 0) (y := 1) (by rw [same]; omega) (by rw [same]; omega)
          have gs := fb_subI (x := eA g5 0 0 120) (y := 1) (by rw [s120]; omega) (by rw [s120]; have := fb_rng (eA g 0 0 120); omega)
          obtain ⟨X, hX⟩ : ∃ X : Nat → Int32, X = upd (eA g5 0 0) (30 + (9 * q + 0)) (gc (eA g5 0 0) 30 q 0 + 1) := ⟨_, rfl⟩
          have X120 : X 120 = eA g5 0 0 120 := by rw [hX]; exact ud_ne (by omega)
          have X1 : X 1 = eA g5 0 0 1 := by rw [hX]; exact ud_ne (by omega)
          have R := FIN (q := q) (h' := sA (sI h3 1 5 (eI h3 1 5 - 1)) 1 0 (upd (eA h3 1 0) (9 * q + 0) (eA h3 1 0 (9 * q + 0) + 1))) (B := upd X 120 (X 120 - 1)) t1 t2 t3 q5 (fun k hc h120 => by rw [ud_ne h120, hX, ud_ne (hc 0 (by decide))]) (Fr_sA (by decide) (Fr_sI (by decide) (Fr_refl _ _))) (by
            refine GEE_out ?_ (by rw [X1, s1]; exact n1.2) (by decide) (by decide)
            rw [c05, hX]
            exact GEE_upd t1.2.1 (by omega)) (by
            rw [ud_eq, X120, ← h15]
            rfl) (by
            rw [ud_eq, X120]
            rw [s120] at gs ⊢
            omega) (fun gr5 => by
            unfold GR at gr5 ⊢
            rw [hX]
            simp (disch := omega) only [gc_upd_ne, gc_upd_eq]
            rw [same] at *
            omega)
          rw [hX] at R
          refine ⟨?_, R.1, R.2.2⟩
          show upd (eA h3 1 0) (9 * q + 0) (eA h3 1 0 (9 * q + 0) + 1) (9 * q + 0) = gc (upd (upd (eA g5 0 0) (30 + (9 * q + 0)) (gc (eA g5 0 0) 30 q 0 + 1)) 120 _) 30 q 0
          rw [gc_upd_ne (by omega), gc_upd_eq, c05, ud_eq]
    · exact absurd (c4.trans q3) (k3 q q1 q2)
  · have m2 : r2 = 0 := m2
    rw [if_pos m2] at e2
    cases e2
    rcases k2 with ⟨-, q', q1', q2', k4⟩ | ⟨k2, -⟩
    · exact absurd ((sr_g sr q2' (show 4 < 9 by decide)).symm.trans k4) (m3 q' q1' q2')
    · have k2 : r1 = 0 := k2
      rw [if_pos k2] at e1
      cases e1
      exact DONE_no sr rg
