/-! what a law asks of a goose: the names of both -/
def LK (nm : Nat → Int32) (p w f l r d : Int32) : Nat → Int32 := upd (upd (upd (upd (upd (upd nm 0 p) 1 w) 2 f) 3 l) 4 r) 5 d
theorem LK_agree {a b : Nat → Int32} {p w f l r d : Int32} (hp : MB p.toInt) (hw : MB w.toInt) (hf : MB f.toInt) (hl : MB l.toInt) (hr : MB r.toInt) (hd : MB d.toInt) {k : Nat} (hk : k < 6) : LK a p w f l r d k = LK b p w f l r d k ∧ MB (LK a p w f l r d k).toInt := by
  have v0 : ∀ c : Nat → Int32, LK c p w f l r d 0 = p := fun c => rfl
  have v1 : ∀ c : Nat → Int32, LK c p w f l r d 1 = w := fun c => rfl
  have v2 : ∀ c : Nat → Int32, LK c p w f l r d 2 = f := fun c => rfl
  have v3 : ∀ c : Nat → Int32, LK c p w f l r d 3 = l := fun c => rfl
  have v4 : ∀ c : Nat → Int32, LK c p w f l r d 4 = r := fun c => rfl
  have v5 : ∀ c : Nat → Int32, LK c p w f l r d 5 = d := fun c => rfl
  match k, hk with
  | 0, _ => rw [v0, v0]; exact ⟨rfl, hp⟩
  | 1, _ => rw [v1, v1]; exact ⟨rfl, hw⟩
  | 2, _ => rw [v2, v2]; exact ⟨rfl, hf⟩
  | 3, _ => rw [v3, v3]; exact ⟨rfl, hl⟩
  | 4, _ => rw [v4, v4]; exact ⟨rfl, hr⟩
  | 5, _ => rw [v5, v5]; exact ⟨rfl, hd⟩
theorem cp_lookAt {h h1 : HS} {p : Int32} {q : Nat} (e : f_X1_lookAt h p = some h1) (hp : p.toInt = (q : Int)) (hq : (q : Int) < (eI h 1 3).toInt) (h10 : (eI h 1 3).toInt ≤ 10) : eA h1 6 1 = LK (eA h 6 1) p (eA h 1 0 (9 * q + 0)) (eA h 1 0 (9 * q + 1)) (eA h 1 0 (9 * q + 2)) (eA h 1 0 (9 * q + 3)) (eI h 1 7) := by
  unfold f_X1_lookAt at e
  obtain ⟨r1, h2, e1, e⟩ := ob2_some e
  have k1 := cp_ofGoose (q := q) (k := 0) e1 hp rfl hq h10 (by decide)
  obtain ⟨rfl, rfl⟩ := pr_inj k1
  obtain ⟨r2, h3, e2, e⟩ := ob2_some e
  have k2 := cp_ofGoose (q := q) (k := 1) e2 hp rfl hq h10 (by decide)
  obtain ⟨rfl, rfl⟩ := pr_inj k2
  obtain ⟨r3, h4, e3, e⟩ := ob2_some e
  have k3 := cp_ofGoose (q := q) (k := 2) e3 hp rfl hq h10 (by decide)
  obtain ⟨rfl, rfl⟩ := pr_inj k3
  obtain ⟨r4, h5, e4, e⟩ := ob2_some e
  have k4 := cp_ofGoose (q := q) (k := 3) e4 hp rfl hq h10 (by decide)
  obtain ⟨rfl, rfl⟩ := pr_inj k4
  cases e
  rfl
theorem mp_names {g g3 : HS} {p l r d : Int32} {q : Nat} (e : f_X9_names g p l r d = some g3) (hp : p.toInt = (q : Int)) (hq : q < 10) : eA g3 0 39 = LK (eA g 0 39) p (gc (eA g 0 0) 30 q 0) (gc (eA g 0 0) 30 q 1) l r d := by
  unfold f_X9_names at e
  obtain ⟨r1, h2, e1, e⟩ := ob2_some e
  have k1 := mp_ofGoose (q := q) (k := 0) e1 hp rfl hq (by decide)
  obtain ⟨rfl, rfl⟩ := pr_inj k1
  obtain ⟨r2, h3, e2, e⟩ := ob2_some e
  have k2 := mp_ofGoose (q := q) (k := 1) e2 hp rfl hq (by decide)
  obtain ⟨rfl, rfl⟩ := pr_inj k2
  cases e
  rfl
/-- what both sides keep while a law is asked -/
def STD (h g : HS) : Prop := SRel h 1 (eA g 0 0) ∧ RG (eA g 0 0) ∧ TXS h g (eA g 0 0 3).toInt
theorem SRel_fr {S : CL} {h h' : HS} {o : Nat} {A : Nat → Int32} (sr : SRel h o A) (f : Fr S h h') (n : ∀ y ∈ [(0, o, 3), (0, o, 4), (0, o, 5), (0, o, 6), (0, o, 7), (0, o, 8), (0, o, 9), (0, o, 10), (0, o, 11), (0, o, 12), (1, o, 0), (1, o, 1), (1, o, 2)], y ∉ S) : SRel h' o A := by
  unfold SRel SCA at *
  rw [f.1 o 3 (n _ (by simp)), f.1 o 4 (n _ (by simp)), f.1 o 5 (n _ (by simp)), f.1 o 6 (n _ (by simp)), f.1 o 7 (n _ (by simp)), f.1 o 8 (n _ (by simp)), f.1 o 9 (n _ (by simp)), f.1 o 10 (n _ (by simp)), f.1 o 11 (n _ (by simp)), f.1 o 12 (n _ (by simp)), f.2.1 o 0 (n _ (by simp)), f.2.1 o 1 (n _ (by simp)), f.2.1 o 2 (n _ (by simp))]
  exact sr
abbrev KS1 : CL := [(0, 1, 3), (0, 1, 4), (0, 1, 5), (0, 1, 6), (0, 1, 7), (0, 1, 8), (0, 1, 9), (0, 1, 10), (0, 1, 11), (0, 1, 12), (1, 1, 0), (1, 1, 1), (1, 1, 2)]
theorem STD_fr {S T : CL} {h h' g g' : HS} (s : STD h g) (f : Fr S h h') (k : Fr T g g') (n1 : ∀ y ∈ KS1, y ∉ S) (n2 : ∀ y ∈ KTC, y ∉ S) (n3 : (1, 0, 0) ∉ T) (n4 : ∀ y ∈ KTM, y ∉ T) : STD h' g' := by
  unfold STD at *
  rw [k.2.1 0 0 n3]
  exact ⟨SRel_fr s.1 f n1, s.2.1, TXS_fr s.2.2 f k n2 n4⟩
theorem std_n {h g : HS} (s : STD h g) : (0 ≤ (eA g 0 0 1).toInt ∧ (eA g 0 0 1).toInt ≤ 10) ∧ (0 ≤ (eA g 0 0 0).toInt ∧ (eA g 0 0 0).toInt ≤ 4) ∧ (-1 ≤ (eA g 0 0 4).toInt ∧ (eA g 0 0 4).toInt < (eA g 0 0 3).toInt ∧ (eA g 0 0 3).toInt ≤ 4) := ⟨s.2.1.1.1, s.2.1.1.2.1, s.2.1.1.2.2.2.2.1.1, s.2.1.1.2.2.2.2.1.2, s.2.1.1.2.2.2.1.2⟩
theorem std_mb {h g : HS} (s : STD h g) {q : Nat} (hq : (q : Int) < (eA g 0 0 1).toInt) : MB (gc (eA g 0 0) 30 q 0).toInt ∧ MB (gc (eA g 0 0) 30 q 1).toInt ∧ MB (gc (eA g 0 0) 30 q 2).toInt ∧ MB (gc (eA g 0 0) 30 q 3).toInt ∧ MB (gc (eA g 0 0) 30 q 5).toInt ∧ MB (gc (eA g 0 0) 30 q 6).toInt ∧ MB (eA g 0 0 121).toInt := by
  have gr := s.2.1.2.2.1.2.2 q hq
  have d := s.2.1.2.2.1.2.1
  have d : 0 ≤ (eA g 0 0 121).toInt ∧ (eA g 0 0 121).toInt ≤ 999 := d
  unfold GR at gr
  unfold MB
  omega
/-- the law of ink -/
theorem j_ink {h g : HS} {p l r : Int32} {z w : Int32 × HS} {q : Nat} (s : STD h g) (hp : p.toInt = (q : Int)) (hq : (q : Int) < (eA g 0 0 1).toInt) (qu : QUI l r) (e1 : f_X1_inkCost h p l r = some z) (e2 : f_X9_inkOf g p l r = some w) : z.1 = w.1 ∧ 0 ≤ w.1.toInt ∧ w.1.toInt ≤ 99 := by
  have y99 : (99 : Int32).toInt = 99 := rfl
  have y1 : (1 : Int32).toInt = 1 := rfl
  have y2 : (2 : Int32).toInt = 2 := rfl
  obtain ⟨n1, n0, n4⟩ := std_n s
  have s3 : eI h 1 3 = eA g 0 0 1 := s.1.1.1
  unfold f_X1_inkCost at e1
  obtain ⟨h1, a1, e1⟩ := ob1_some e1
  obtain ⟨r2, h2, a2, e1⟩ := ob2_some e1
  cases e1
  have f1 := w_f_X1_lookAtFilled _ _ _ _ _ a1
  unfold f_X1_lookAtFilled at a1
  obtain ⟨h0, a0, a1⟩ := ob1_some a1
  have lk := cp_lookAt (q := q) a0 hp (by rw [s3]; exact hq) (by rw [s3]; exact n1.2)
  unfold f_X9_inkOf at e2
  obtain ⟨r1, g1, b1, e2⟩ := ob2_some e2
  have tx1 : TXS h1 g (eA g 0 0 3).toInt := TXS_fr s.2.2 f1 (Fr_refl [] g) (by decide) (by decide)
  obtain ⟨u1, u2⟩ := rule_both (h := h1) (lw := 2) (by decide) (by decide) (by rw [f1.1 1 10 (by decide)]; exact s.1.1.2.2.2.2.2.2.2.1) n4 tx1 a2 b1
  have u1 : g = g1 := u1.symm
  subst u1
  rcases u2 with ⟨u2, -, -, u3⟩ | ⟨u2, u3⟩
  · have u2 : r1 = -1 := u2
    rw [if_pos u2] at e2
    cases e2
    have u3 : r2 = 1 := u3 (by decide) (by decide)
    refine ⟨u3, ?_⟩
    show 0 ≤ (1 : Int32).toInt ∧ (1 : Int32).toInt ≤ 99
    omega
  · have u2 : ¬ r1 = -1 := u2
    rw [if_neg u2] at e2
    obtain ⟨g3, b3, e2⟩ := ob1_some e2
    obtain ⟨r4, g4, b4, e2⟩ := ob2_some e2
    obtain ⟨r5, b5, e2⟩ := ob1_some e2
    cases e2
    have nm := mp_names (q := q) b3 hp (by omega)
    have f3 := w_f_X9_names _ _ _ _ _ _ b3
    have m := std_mb s hq
    have sy := u3 g3 (r4, g4) b4 (Fr_mono (by decide) f3) (fun k _ hk => ?_)
    · obtain ⟨v1, v2, v3, v4⟩ := sy
      have v3 : r2.toInt = hldI r4.toInt 99 := v3 rfl
      have v5 : r5.toInt = hldI r4.toInt 99 := by
        rcases held_ok b5 with v | v
        · exact v
        · omega
      refine ⟨gi_eq (v3.trans v5.symm), ?_⟩
      show 0 ≤ r5.toInt ∧ r5.toInt ≤ 99
      rw [v5]
      unfold hldI
      by_cases c1 : r4.toInt < 0
      · rw [if_pos c1]; omega
      · rw [if_neg c1]
        by_cases c2 : 99 < r4.toInt
        · rw [if_pos c2]; omega
        · rw [if_neg c2]; omega
    · have k6 : k < 6 := hk (by decide)
      have e1' : eA h1 6 1 = LK (eA h 6 1) p (gc (eA g 0 0) 30 q 0) (gc (eA g 0 0) 30 q 1) l r (eA g 0 0 121) := by
        cases a1
        show upd (upd (eA h0 6 1) 3 l) 4 r = _
        rw [lk]
        have g0 := sr_g s.1 hq (show 0 < 9 by decide)
        have g1 := sr_g s.1 hq (show 1 < 9 by decide)
        have d7 : eI h 1 7 = eA g 0 0 121 := s.1.1.2.2.2.2.1
        rw [g0, g1, d7]
        funext i
        unfold LK upd
        by_cases c4 : i = 4
        · rw [if_pos c4, if_neg (by omega), if_pos c4]
        · rw [if_neg c4]
          by_cases c3 : i = 3
          · rw [if_pos c3, if_neg (by omega), if_neg c4, if_pos c3]
          · rw [if_neg c3, if_neg c4, if_neg c3, if_neg c4, if_neg c3]
      rw [e1', nm]
      unfold QUI at qu
      exact LK_agree (by unfold MB; omega) m.1 m.2.1 (by unfold MB; omega) (by unfold MB; omega) m.2.2.2.2.2.2 k6
