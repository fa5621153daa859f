/-! which goose it led to -/
def B1 (x : Int32) : Prop := x = 1 ∨ x = 3
def B2 (x : Int32) : Prop := x = 2 ∨ x = 3
def IN4 (x : Int32) : Prop := 0 ≤ x.toInt ∧ x.toInt < 4
theorem in4_cases {x : Int32} (h : IN4 x) : x = 0 ∨ x = 1 ∨ x = 2 ∨ x = 3 := by
  have y0 : (0 : Int32).toInt = 0 := rfl
  have y1 : (1 : Int32).toInt = 1 := rfl
  have y2 : (2 : Int32).toInt = 2 := rfl
  have y3 : (3 : Int32).toInt = 3 := rfl
  unfold IN4 at h
  by_cases c0 : x.toInt = 0
  · exact Or.inl (gi_eq (by omega))
  · by_cases c1 : x.toInt = 1
    · exact Or.inr (Or.inl (gi_eq (by omega)))
    · by_cases c2 : x.toInt = 2
      · exact Or.inr (Or.inr (Or.inl (gi_eq (by omega))))
      · exact Or.inr (Or.inr (Or.inr (gi_eq (by omega))))
theorem or_bits {x y : Int32} (hx : IN4 x) (hy : IN4 y) : IN4 (x ||| y) ∧ (B1 (x ||| y) ↔ B1 x ∨ B1 y) ∧ (B2 (x ||| y) ↔ B2 x ∨ B2 y) := by
  unfold IN4 B1 B2
  rcases in4_cases hx with rfl | rfl | rfl | rfl <;> rcases in4_cases hy with rfl | rfl | rfl | rfl <;> decide
theorem b3 {x : Int32} (hx : IN4 x) : x = 3 ↔ B1 x ∧ B2 x := by
  unfold B1 B2
  rcases in4_cases hx with rfl | rfl | rfl | rfl <;> decide
/-- when she was settled; what she tells -/
def TH (A : Nat → Int32) (q : Nat) : Int := (gc A 30 q 7).toInt
def HVB (A : Nat → Int32) (q : Nat) : Int32 := if gc A 30 q 3 = 0 then 3 else gc A 30 q 3
def TRU (g : HS) (q : Nat) : Prop := ∃ (x : Int32) (w : Int32 × HS), x.toInt = (q : Int) ∧ f_X9_isTrue g x = some w ∧ w.1 = 1
def TEL (g : HS) (l en : Int32) (q : Nat) : Prop := gc (eA g 0 0) 30 q 2 = l ∧ ((¬ en = 0 ∧ gc (eA g 0 0) 30 q 4 = 4) ∨ (en = 0 ∧ gc (eA g 0 0) 30 q 4 = 2 ∧ TRU g q))
/-- heaps that show the same state -/
def SAM (h0 g0 h g : HS) : Prop := STD h g ∧ STD h0 g ∧ STD h g0 ∧ eA g 0 0 = eA g0 0 0
theorem SAM_fr {S T : CL} {h0 g0 h h' g g' : HS} (s : SAM h0 g0 h g) (f : Fr S h h') (k : Fr T g g') (n1 : ∀ y ∈ KS1, y ∉ S) (n2 : ∀ y ∈ KTC, y ∉ S) (n3 : (1, 0, 0) ∉ T) (n4 : ∀ y ∈ KTM, y ∉ T) : SAM h0 g0 h' g' := ⟨STD_fr s.1 f k n1 n2 n3 n4, STD_fr s.2.1 (Fr_refl [] _) k (by simp) (by simp) n3 n4, STD_fr s.2.2.1 f (Fr_refl [] _) n1 n2 (by simp) (by simp), (k.2.1 0 0 n3).trans s.2.2.2⟩
theorem tru_iff {h0 g0 g : HS} (ic : IC h0) (im : IM g0) (s0 : STD h0 g0) (s : STD h0 g) (ea : eA g 0 0 = eA g0 0 0) {x : Int32} {q : Nat} (hx : x.toInt = (q : Int)) (hq : (q : Int) < (eA g0 0 0 1).toInt) {w : Int32 × HS} (e : f_X9_isTrue g x = some w) : (w.1 = 1 ↔ TRU g0 q) ∧ (w.1 = 0 ∨ w.1 = 1) := by
  have n1 := (std_n s0).1
  obtain ⟨z, ez, -⟩ := u_X1_isTrue h0 x ic
  obtain ⟨v, ev, -⟩ := u_X9_isTrue g0 x im (by omega)
  obtain ⟨j1, j2⟩ := j_isTrue s hx (by rw [ea]; exact hq) ez e
  obtain ⟨j3, j4⟩ := j_isTrue s0 hx hq ez ev
  refine ⟨⟨fun h => ⟨x, v, hx, ev, j3.symm.trans (j1.trans h)⟩, fun h => ?_⟩, j2⟩
  obtain ⟨y, u, hy, eu, u1⟩ := h
  obtain rfl : y = x := gi_eq (hy.trans hx.symm)
  rw [ev] at eu
  cases eu
  exact j1.symm.trans (j3.trans u1)
theorem cp_tel {h0 g0 h : HS} (ic : IC h0) (im : IM g0) (s0 : STD h0 g0) (s : STD h g0) {x l en : Int32} {q : Nat} {z : Int32 × HS} (hx : x.toInt = (q : Int)) (hq : (q : Int) < (eA g0 0 0 1).toInt) (e : f_X8_tells h x l en = some z) : (z.1 = 1 ∧ TEL g0 l en q) ∨ (z.1 = 0 ∧ ¬ TEL g0 l en q) := by
  have n1 := (std_n s0).1
  obtain ⟨t1, t2, t3, t4⟩ := cp_tells s hx hq e
  unfold TEL
  by_cases cl : gc (eA g0 0 0) 30 q 2 = l
  · by_cases ce : en = 0
    · by_cases cf : gc (eA g0 0 0) 30 q 4 = 2
      · obtain ⟨v, ev, -⟩ := u_X9_isTrue g0 x im (by omega)
        obtain ⟨i1, i2⟩ := tru_iff ic im s0 s0 rfl hx hq ev
        have zv := (t4 cl ce).2 cf v ev
        rcases i2 with i2 | i2
        · right
          refine ⟨zv.trans i2, fun k => ?_⟩
          rcases k.2 with ⟨k, -⟩ | ⟨-, -, k⟩
          · exact k ce
          · have := i1.mpr k
            rw [i2] at this
            exact absurd this (by decide)
        · left
          exact ⟨zv.trans i2, cl, Or.inr ⟨ce, cf, i1.mp i2⟩⟩
      · right
        refine ⟨(t4 cl ce).1 cf, fun k => ?_⟩
        rcases k.2 with ⟨k, -⟩ | ⟨-, k, -⟩
        · exact k ce
        · exact cf k
    · by_cases cf : gc (eA g0 0 0) 30 q 4 = 4
      · left
        exact ⟨(t3 cl ce).1 cf, cl, Or.inl ⟨ce, cf⟩⟩
      · right
        refine ⟨(t3 cl ce).2 cf, fun k => ?_⟩
        rcases k.2 with ⟨-, k⟩ | ⟨k, -, -⟩
        · exact cf k
        · exact ce k
  · right
    exact ⟨t2 cl, fun k => cl k.1⟩
theorem tel_part {g0 : HS} (rg : RG (eA g0 0 0)) {l en : Int32} {q : Nat} (l0 : 0 ≤ l.toInt) (hq : (q : Int) < (eA g0 0 0 1).toInt) (t : TEL g0 l en q) : (0 ≤ (gc (eA g0 0 0) 30 q 3).toInt ∧ (gc (eA g0 0 0) 30 q 3).toInt ≤ 2) ∧ 0 ≤ TH (eA g0 0 0) q ∧ TH (eA g0 0 0) q ≤ 999 ∧ IN4 (HVB (eA g0 0 0) q) := by
  have y0 : (0 : Int32).toInt = 0 := rfl
  have y2 : (2 : Int32).toInt = 2 := rfl
  have y3 : (3 : Int32).toInt = 3 := rfl
  have y4 : (4 : Int32).toInt = 4 := rfl
  have gr := rg.2.2.1.2.2 q hq
  have dl := gi_of_eq t.1
  have f2 : 2 ≤ (gc (eA g0 0 0) 30 q 4).toInt := by
    rcases t.2 with ⟨-, k⟩ | ⟨-, k, -⟩
    · have := gi_of_eq k; omega
    · have := gi_of_eq k; omega
  unfold GR at gr
  have p : 0 ≤ (gc (eA g0 0 0) 30 q 3).toInt ∧ (gc (eA g0 0 0) 30 q 3).toInt ≤ 2 := by omega
  unfold TH HVB IN4
  refine ⟨p, by omega, by omega, ?_⟩
  by_cases c : gc (eA g0 0 0) 30 q 3 = 0
  · rw [if_pos c]; omega
  · rw [if_neg c]; omega
theorem hv_HB {A : Nat → Int32} {q : Nat} {r : Int32} (p : 0 ≤ (gc A 30 q 3).toInt ∧ (gc A 30 q 3).toInt ≤ 2) (e : f_X8_halvesOf (gc A 30 q 3) = some r) : r = HVB A q := by
  have e2 : f_X9_halves (gc A 30 q 3) = some (HVB A q) := by
    unfold f_X9_halves f_X9_halves_9 HVB
    by_cases c : gc A 30 q 3 = 0
    · rw [if_pos c, if_pos c]
    · rw [if_neg c, if_neg c]
  exact hv_same p e e2
theorem mp_tel {h0 g0 g : HS} (ic : IC h0) (im : IM g0) (s0 : STD h0 g0) (s : STD h0 g) (ea : eA g 0 0 = eA g0 0 0) {x l en d : Int32} {q : Nat} {w : Int32 × HS} (hx : x.toInt = (q : Int)) (hq : (q : Int) < (eA g0 0 0 1).toInt) (l0 : 0 ≤ l.toInt) (hd : gc (eA g0 0 0) 30 q 7 = d) (d0 : 0 ≤ d.toInt) (e : f_X9_brought g x l d en = some w) : (TEL g0 l en q ∧ w.1 = HVB (eA g0 0 0) q) ∨ (¬ TEL g0 l en q ∧ w.1 = 0) := by
  have ym : (-1 : Int32).toInt = -1 := rfl
  have n1 := (std_n s0).1
  obtain ⟨m1, m2⟩ := mp_brought hx (by omega) e
  rw [ea] at m1 m2
  have c7 : ¬ gc (eA g0 0 0) 30 q 7 = -1 := by rw [hd]; exact gi_ne (by omega)
  have cd : ¬ d < gc (eA g0 0 0) 30 q 7 := by rw [hd]; exact gi_nlt (Int.le_refl _)
  have hv : ∀ r : Int32, f_X9_halves (gc (eA g0 0 0) 30 q 3) = some r → r = HVB (eA g0 0 0) q := by
    intro r er
    unfold f_X9_halves f_X9_halves_9 at er
    unfold HVB
    by_cases c : gc (eA g0 0 0) 30 q 3 = 0
    · rw [if_pos c] at er ⊢; cases er; rfl
    · rw [if_neg c] at er ⊢; cases er; rfl
  by_cases cl : gc (eA g0 0 0) 30 q 2 = l
  · by_cases ce : en = 0
    · by_cases cf : gc (eA g0 0 0) 30 q 4 = 2
      · obtain ⟨v, v1, v2, v3⟩ := (m2 cl c7 cd).2 ce cf
        obtain ⟨i1, i2⟩ := tru_iff ic im s0 s ea hx hq v1
        rcases i2 with i2 | i2
        · right
          refine ⟨fun k => ?_, v2 i2⟩
          rcases k.2 with ⟨k, -⟩ | ⟨-, -, k⟩
          · exact k ce
          · have := i1.mpr k
            rw [i2] at this
            exact absurd this (by decide)
        · left
          exact ⟨⟨cl, Or.inr ⟨ce, cf, i1.mp i2⟩⟩, hv _ (v3 (by rw [i2]; decide))⟩
      · right
        refine ⟨fun k => ?_, m1 (Or.inr (Or.inr (Or.inr (Or.inl ⟨ce, cf⟩))))⟩
        rcases k.2 with ⟨k, -⟩ | ⟨-, k, -⟩
        · exact k ce
        · exact cf k
    · by_cases cf : gc (eA g0 0 0) 30 q 4 = 4
      · left
        exact ⟨⟨cl, Or.inl ⟨ce, cf⟩⟩, hv _ ((m2 cl c7 cd).1 ce cf)⟩
      · right
        refine ⟨fun k => ?_, m1 (Or.inr (Or.inr (Or.inr (Or.inr ⟨ce, cf⟩))))⟩
        rcases k.2 with ⟨-, k⟩ | ⟨k, -, -⟩
        · exact cf k
        · exact ce k
  · right
    exact ⟨fun k => cl k.1, m1 (Or.inl cl)⟩
/-- the halves that a set of geese tells -/
def HS1 (g : HS) (l en : Int32) (P : Nat → Prop) : Prop := ∃ p : Nat, (p : Int) < (eA g 0 0 1).toInt ∧ P p ∧ TEL g l en p ∧ B1 (HVB (eA g 0 0) p)
def HS2 (g : HS) (l en : Int32) (P : Nat → Prop) : Prop := ∃ p : Nat, (p : Int) < (eA g 0 0 1).toInt ∧ P p ∧ TEL g l en p ∧ B2 (HVB (eA g 0 0) p)
def ACC (g : HS) (l en : Int32) (P : Nat → Prop) (r : Int32) : Prop := IN4 r ∧ (B1 r ↔ HS1 g l en P) ∧ (B2 r ↔ HS2 g l en P)
theorem ACC_0 {g : HS} {l en : Int32} {P : Nat → Prop} (h : ∀ p, ¬ P p) : ACC g l en P 0 := by
  refine ⟨by unfold IN4; decide, ⟨fun k => ?_, fun k => ?_⟩, ⟨fun k => ?_, fun k => ?_⟩⟩
  · unfold B1 at k; exact absurd k (by decide)
  · obtain ⟨p, -, k, -⟩ := k; exact absurd k (h p)
  · unfold B2 at k; exact absurd k (by decide)
  · obtain ⟨p, -, k, -⟩ := k; exact absurd k (h p)
theorem ACC_same {g : HS} {l en : Int32} {P Q : Nat → Prop} {r : Int32} (a : ACC g l en P r) (h : ∀ p : Nat, (p : Int) < (eA g 0 0 1).toInt → TEL g l en p → (P p ↔ Q p)) : ACC g l en Q r := by
  obtain ⟨a1, a2, a3⟩ := a
  refine ⟨a1, ⟨fun k => ?_, fun k => ?_⟩, ⟨fun k => ?_, fun k => ?_⟩⟩
  · obtain ⟨p, p1, p2, p3, p4⟩ := a2.mp k; exact ⟨p, p1, (h p p1 p3).mp p2, p3, p4⟩
  · obtain ⟨p, p1, p2, p3, p4⟩ := k; exact a2.mpr ⟨p, p1, (h p p1 p3).mpr p2, p3, p4⟩
  · obtain ⟨p, p1, p2, p3, p4⟩ := a3.mp k; exact ⟨p, p1, (h p p1 p3).mp p2, p3, p4⟩
  · obtain ⟨p, p1, p2, p3, p4⟩ := k; exact a3.mpr ⟨p, p1, (h p p1 p3).mpr p2, p3, p4⟩
theorem ACC_add {g : HS} {l en : Int32} {P Q : Nat → Prop} {r : Int32} {q : Nat} (rg : RG (eA g 0 0)) (l0 : 0 ≤ l.toInt) (a : ACC g l en P r) (hq : (q : Int) < (eA g 0 0 1).toInt) (t : TEL g l en q) (h : ∀ p : Nat, (p : Int) < (eA g 0 0 1).toInt → TEL g l en p → (Q p ↔ P p ∨ p = q)) : ACC g l en Q (r ||| HVB (eA g 0 0) q) := by
  obtain ⟨a1, a2, a3⟩ := a
  obtain ⟨-, -, -, h4⟩ := tel_part rg l0 hq t
  obtain ⟨o1, o2, o3⟩ := or_bits a1 h4
  refine ⟨o1, ⟨fun k => ?_, fun k => ?_⟩, ⟨fun k => ?_, fun k => ?_⟩⟩
  · rcases o2.mp k with k | k
    · obtain ⟨p, p1, p2, p3, p4⟩ := a2.mp k; exact ⟨p, p1, (h p p1 p3).mpr (Or.inl p2), p3, p4⟩
    · exact ⟨q, hq, (h q hq t).mpr (Or.inr rfl), t, k⟩
  · obtain ⟨p, p1, p2, p3, p4⟩ := k
    rcases (h p p1 p3).mp p2 with p2 | p2
    · exact o2.mpr (Or.inl (a2.mpr ⟨p, p1, p2, p3, p4⟩))
    · subst p2; exact o2.mpr (Or.inr p4)
  · rcases o3.mp k with k | k
    · obtain ⟨p, p1, p2, p3, p4⟩ := a3.mp k; exact ⟨p, p1, (h p p1 p3).mpr (Or.inl p2), p3, p4⟩
    · exact ⟨q, hq, (h q hq t).mpr (Or.inr rfl), t, k⟩
  · obtain ⟨p, p1, p2, p3, p4⟩ := k
    rcases (h p p1 p3).mp p2 with p2 | p2
    · exact o3.mpr (Or.inl (a3.mpr ⟨p, p1, p2, p3, p4⟩))
    · subst p2; exact o3.mpr (Or.inr p4)
/-- the class's halves had -/
theorem cp_had {h0 g0 : HS} (ic : IC h0) (im : IM g0) (s0 : STD h0 g0) {l en d b : Int32} (l0 : 0 ≤ l.toInt) : ∀ (n : Nat) (h : HS) (acc x : Int32) (z : Int32 × HS), f_X8_halvesHad_6 n h l en d b acc x = some z → STD h g0 → 0 ≤ x.toInt → ACC g0 l en (fun p => (p : Int) < x.toInt ∧ (TH (eA g0 0 0) p < d.toInt ∨ (TH (eA g0 0 0) p = d.toInt ∧ (p : Int) < b.toInt))) acc → ACC g0 l en (fun p => TH (eA g0 0 0) p < d.toInt ∨ (TH (eA g0 0 0) p = d.toInt ∧ (p : Int) < b.toInt)) z.1 := by
  have y1 : (1 : Int32).toInt = 1 := rfl
  have n1 := (std_n s0).1
  intro n
  induction n with
  | zero => intro h acc x z e; cases e
  | succ n ih =>
    intro h acc x z e s hx a
    have s3 : eI h 1 3 = eA g0 0 0 1 := s.1.1.1
    rw [f_X8_halvesHad_6_s, s3] at e
    by_cases c : eA g0 0 0 1 ≤ x
    · rw [if_pos c] at e
      have dc := gi_of_le c
      cases e
      exact ACC_same a (fun p hp _ => ⟨fun k => k.2, fun k => ⟨by omega, k⟩⟩)
    · rw [if_neg c] at e
      have dc := gi_of_nle c
      obtain ⟨q, hq⟩ : ∃ q : Nat, x.toInt = (q : Int) := ⟨x.toInt.toNat, by omega⟩
      have qx : (q : Int) < (eA g0 0 0 1).toInt := by omega
      have ax := fb_addI (x := x) (y := 1) (by omega) (by omega)
      obtain ⟨r2, h2, a2, e⟩ := ob2_some e
      obtain ⟨rfl, rfl⟩ := pr_inj (cp_ofGoose (q := q) (k := 7) a2 hq rfl (by rw [s3]; exact qx) (by rw [s3]; exact n1.2) (by decide))
      rw [sr_g s.1 qx (show 7 < 9 by decide)] at e
      have skip : ∀ h9 : HS, STD h9 g0 → ¬ ((TH (eA g0 0 0) q < d.toInt ∨ (TH (eA g0 0 0) q = d.toInt ∧ (q : Int) < b.toInt)) ∧ TEL g0 l en q) → f_X8_halvesHad_6 n h9 l en d b acc (x + 1) = some z → ACC g0 l en (fun p => TH (eA g0 0 0) p < d.toInt ∨ (TH (eA g0 0 0) p = d.toInt ∧ (p : Int) < b.toInt)) z.1 := by
        intro h9 s9 nt e9
        refine ih h9 acc (x + 1) z e9 s9 (by omega) (ACC_same a (fun p hp tp => ⟨fun k => ⟨by omega, k.2⟩, fun k => ⟨?_, k.2⟩⟩))
        by_cases cp : p = q
        · subst cp; exact absurd ⟨k.2, tp⟩ nt
        · omega
      have late : ¬ (TH (eA g0 0 0) q < d.toInt ∨ (TH (eA g0 0 0) q = d.toInt ∧ (q : Int) < b.toInt)) → f_X8_halvesHad_79 (f_X8_halvesHad_6 n) h l en d b acc x = some z → ACC g0 l en (fun p => TH (eA g0 0 0) p < d.toInt ∨ (TH (eA g0 0 0) p = d.toInt ∧ (p : Int) < b.toInt)) z.1 := fun k e9 => skip h s (fun w => k w.1) e9
      have soon : (TH (eA g0 0 0) q < d.toInt ∨ (TH (eA g0 0 0) q = d.toInt ∧ (q : Int) < b.toInt)) → f_X8_halvesHad_50 (f_X8_halvesHad_6 n) h l en d b acc x = some z → ACC g0 l en (fun p => TH (eA g0 0 0) p < d.toInt ∨ (TH (eA g0 0 0) p = d.toInt ∧ (p : Int) < b.toInt)) z.1 := by
        intro k e9
        unfold f_X8_halvesHad_50 f_X8_halvesHad_79 at e9
        obtain ⟨r6, h6, a6, e9⟩ := ob2_some e9
        have f6 := w_f_X8_tells _ _ _ _ _ a6
        have f6 : Fr S_X8_tells h h6 := f6
        have s6 : STD h6 g0 := STD_fr s f6 (Fr_refl [] g0) (by decide) (by decide) (by decide) (by decide)
        have c13 : eI h6 1 3 = eA g0 0 0 1 := (f6.1 1 3 (by decide)).trans s3
        rcases cp_tel ic im s0 s hq qx a6 with ⟨t1, t2⟩ | ⟨t1, t2⟩
        · have t1 : r6 = 1 := t1
          rw [if_neg (by rw [t1]; decide)] at e9
          obtain ⟨r8, h8, a8, e9⟩ := ob2_some e9
          have ta := cp_ofGoose (q := q) (k := 3) a8 hq rfl (by rw [c13]; exact qx) (by rw [c13]; exact n1.2) (by decide)
          rw [f6.2.1 1 0 (by decide), sr_g s.1 qx (show 3 < 9 by decide)] at ta
          obtain ⟨rfl, rfl⟩ := pr_inj ta
          obtain ⟨r9, a9, e9⟩ := ob1_some e9
          have tp := tel_part s0.2.1 l0 qx t2
          rw [hv_HB tp.1 a9] at e9
          refine ih h6 _ (x + 1) z e9 s6 (by omega) (ACC_add s0.2.1 l0 a qx t2 (fun p hp _ => ⟨fun w => ?_, fun w => ?_⟩))
          · by_cases cp : p = q
            · exact Or.inr cp
            · exact Or.inl ⟨by omega, w.2⟩
          · rcases w with w | w
            · exact ⟨by omega, w.2⟩
            · subst w; exact ⟨by omega, k⟩
        · have t1 : r6 = 0 := t1
          rw [if_pos t1] at e9
          exact skip h6 s6 (fun w => t2 w.2) e9
      have th : TH (eA g0 0 0) q = (gc (eA g0 0 0) 30 q 7).toInt := rfl
      by_cases c1 : gc (eA g0 0 0) 30 q 7 < d
      · rw [if_pos c1] at e
        have d1 := gi_of_lt c1
        exact soon (Or.inl (by omega)) e
      · rw [if_neg c1] at e
        have d1 := gi_of_nlt c1
        by_cases c2 : gc (eA g0 0 0) 30 q 7 = d
        · rw [if_pos c2] at e
          have d2 := gi_of_eq c2
          by_cases c3 : b ≤ x
          · rw [if_pos c3] at e
            have d3 := gi_of_le c3
            exact late (by omega) e
          · rw [if_neg c3] at e
            have d3 := gi_of_nle c3
            exact soon (Or.inr ⟨by omega, by omega⟩) e
        · rw [if_neg c2] at e
          have d2 := gi_of_ne c2
          exact late (by omega) e
