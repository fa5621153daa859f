/-! is she true -/
theorem j_isTrue {h g : HS} {p : Int32} {z w : Int32 × HS} {q : Nat} (s : STD h g) (hp : p.toInt = (q : Int)) (hq : (q : Int) < (eA g 0 0 1).toInt) (e1 : f_X1_isTrue h p = some z) (e2 : f_X9_isTrue g p = some w) : z.1 = w.1 ∧ (w.1 = 0 ∨ w.1 = 1) := by
  obtain ⟨n1, n0, n4⟩ := std_n s
  have s3 : eI h 1 3 = eA g 0 0 1 := s.1.1.1
  have d7 : eI h 1 7 = eA g 0 0 121 := s.1.1.2.2.2.2.1
  unfold f_X1_isTrue f_X1_isTrue_20 at e1
  obtain ⟨h1, a1, e1⟩ := ob1_some e1
  obtain ⟨r2, h2, a2, e1⟩ := ob2_some e1
  have lk := cp_lookAt (q := q) a1 hp (by rw [s3]; exact hq) (by rw [s3]; exact n1.2)
  have f1 := w_f_X1_lookAt _ _ _ a1
  unfold f_X9_isTrue at e2
  obtain ⟨r3, g3, b3, e2⟩ := ob2_some e2
  obtain ⟨rfl, rfl⟩ := pr_inj (mp_ofGoose (q := q) (k := 2) b3 hp rfl (by omega) (by decide))
  obtain ⟨r4, g4, b4, e2⟩ := ob2_some e2
  obtain ⟨rfl, rfl⟩ := pr_inj (mp_ofGoose (q := q) (k := 3) b4 hp rfl (by omega) (by decide))
  obtain ⟨r5, g5, b5, e2⟩ := ob2_some e2
  obtain ⟨rfl, rfl⟩ := pr_inj (mp_ofGoose (q := q) (k := 1) b5 hp rfl (by omega) (by decide))
  obtain ⟨r6, g6, b6, e2⟩ := ob2_some e2
  obtain ⟨-, e2⟩ := ob_if e2
  cases e2
  have b0 := sr_g s.1 hq (show 0 < 9 by decide)
  have b1 := sr_g s.1 hq (show 1 < 9 by decide)
  have b2 := sr_g s.1 hq (show 2 < 9 by decide)
  have b3 := sr_g s.1 hq (show 3 < 9 by decide)
  rw [b0, b1, b2, b3, d7] at lk
  have c := j_code s hp hq rfl rfl (std_mb s hq).2.1 (Fr_mono (by decide) f1) (fun k k6 => by
    rw [lk]
    by_cases c2 : k = 2
    · subst c2; rfl
    · rw [ud_ne c2]) a2 b6
  rcases c with ⟨c1, c2⟩ | ⟨c1, c2⟩
  · have c1 : r2 = 0 := c1
    rw [if_pos c1, if_pos (Or.inl rfl)] at e1
    cases e1
    exact ⟨c2.symm, Or.inl c2⟩
  · have c1 : ¬ r2 = 0 := c1
    rw [if_neg c1, if_pos (Or.inr rfl)] at e1
    cases e1
    exact ⟨c2.symm, Or.inr c2⟩
theorem j_trueWith {h g : HS} {p f : Int32} {z w : Int32 × HS} {q : Nat} (s : STD h g) (hp : p.toInt = (q : Int)) (hq : (q : Int) < (eA g 0 0 1).toInt) (hf : MB f.toInt) (e1 : f_X1_isTrueWith h p f = some z) (e2 : f_X9_isTrueBy g p (gc (eA g 0 0) 30 q 2) (gc (eA g 0 0) 30 q 3) f = some w) : z.1 = w.1 ∧ (w.1 = 0 ∨ w.1 = 1) := by
  obtain ⟨n1, n0, n4⟩ := std_n s
  have s3 : eI h 1 3 = eA g 0 0 1 := s.1.1.1
  have d7 : eI h 1 7 = eA g 0 0 121 := s.1.1.2.2.2.2.1
  unfold f_X1_isTrueWith f_X1_isTrueWith_27 at e1
  obtain ⟨h1, a1, e1⟩ := ob1_some e1
  obtain ⟨r2, h2, a2, e1⟩ := ob2_some e1
  have lk := cp_lookAt (q := q) a1 hp (by rw [s3]; exact hq) (by rw [s3]; exact n1.2)
  have f1 := w_f_X1_lookAt _ _ _ a1
  have b0 := sr_g s.1 hq (show 0 < 9 by decide)
  have b1 := sr_g s.1 hq (show 1 < 9 by decide)
  have b2 := sr_g s.1 hq (show 2 < 9 by decide)
  have b3 := sr_g s.1 hq (show 3 < 9 by decide)
  rw [b0, b1, b2, b3, d7] at lk
  have c := j_code s hp hq rfl rfl hf (Fr_sA (by decide) (Fr_mono (by decide) f1)) (fun k k6 => by
    show upd (eA h1 6 1) 2 f k = _
    rw [lk]) a2 e2
  rcases c with ⟨c1, c2⟩ | ⟨c1, c2⟩
  · have c1 : r2 = 0 := c1
    rw [if_pos c1, if_pos (Or.inl rfl)] at e1
    cases e1
    exact ⟨c2.symm, Or.inl c2⟩
  · have c1 : ¬ r2 = 0 := c1
    rw [if_neg c1, if_pos (Or.inr rfl)] at e1
    cases e1
    exact ⟨c2.symm, Or.inr c2⟩
/-! within a day -/
def PS (h g : HS) : Prop := STD h g ∧ SFul h (eA g 0 0)
theorem PS_fr {S T : CL} {h h' g g' : HS} (s : PS h g) (f : Fr S h h') (k : Fr T g g') (n1 : ∀ y ∈ KS1, y ∉ S) (n2 : ∀ y ∈ KTC, y ∉ S) (n3 : (1, 0, 0) ∉ T) (n4 : ∀ y ∈ KTM, y ∉ T) : PS h' g' := by
  refine ⟨STD_fr s.1 f k n1 n2 n3 n4, ?_⟩
  have q := s.2
  unfold SFul at *
  rw [k.2.1 0 0 n3, f.2.1 1 2 (n1 _ (by decide)), f.1 1 11 (n1 _ (by decide))]
  exact q
theorem PS_mk {S T : CL} {h h' g g' : HS} (s : PS h g) (r : SRel h' 1 (eA g' 0 0) ∧ SFul h' (eA g' 0 0) ∧ RG (eA g' 0 0)) (e3 : eA g' 0 0 3 = eA g 0 0 3) (f : Fr S h h') (k : Fr T g g') (n2 : ∀ y ∈ KTC, y ∉ S) (n4 : ∀ y ∈ KTM, y ∉ T) : PS h' g' := by
  refine ⟨⟨r.1, r.2.2, ?_⟩, r.2.1⟩
  rw [e3]
  exact TXS_fr s.1.2.2 f k n2 n4
theorem j_draw {h g : HS} {z w : Int32 × HS} (s : PS h g) (e1 : f_X4_draw h = some z) (e2 : f_X9_draw g = some w) : z.1 = w.1 ∧ PS z.2 w.2 ∧ (∀ k : Nat, ¬ k = 122 → eA w.2 0 0 k = eA g 0 0 k) ∧ eA z.2 6 1 = eA h 6 1 := by
  obtain ⟨n1, n0, n4⟩ := std_n s.1
  have s8 : eI h 1 8 = eA g 0 0 122 := s.1.1.1.2.2.2.2.2.1
  unfold f_X4_draw at e1
  unfold f_X9_draw at e2
  rw [s8] at e1
  cases e1
  cases e2
  refine ⟨rfl, ?_, fun k hk => ud_ne hk, rfl⟩
  have u : ∀ v : Int32, ∀ k : Nat, ¬ k = 122 → upd (eA g 0 0) 122 v k = eA g 0 0 k := fun v k hk => ud_ne hk
  have sc := s.1.1.1
  generalize hv : eA g 0 0 122 * 157 + 61 - (eA g 0 0 122 * 157 + 61) / 30071 * 30071 = v
  have E := SR_edit (h := h) (h' := sI h 1 8 v) (B := upd (eA g 0 0) 122 v) s.1.1 s.2 n1.2 (fun k hk => u v k (by omega)) (fun k hk => u v k (by omega)) rfl rfl rfl rfl rfl (sc.2.2.1.trans (u v 120 (by omega)).symm) rfl (sc.2.2.2.2.1.trans (u v 121 (by omega)).symm) ud_eq.symm rfl rfl rfl (GEE_out s.1.1.2.1 n1.2 (by decide) (by decide)) n0.2
  refine PS_mk (S := [(0, 1, 8)]) (T := [(1, 0, 0)]) s ⟨E.1, E.2, ?_⟩ (u v 3 (by decide)) (Fr_sI (by decide) (Fr_refl _ _)) (Fr_sA (by decide) (Fr_refl _ _)) (by decide) (by decide)
  exact RG_edit (q := 10) s.1.2.1 (fun k hk => u v k (by omega)) (fun k hk => u v k (by omega)) (fun p k hk hp hp2 => u v _ (by omega)) (fun hq => by omega) (by show 0 ≤ (upd (eA g 0 0) 122 v 120).toInt; rw [u v 120 (by omega)]; exact s.1.2.1.2.2.1.1) (by show 0 ≤ (upd (eA g 0 0) 122 v 121).toInt ∧ (upd (eA g 0 0) 122 v 121).toInt ≤ 999; rw [u v 121 (by omega)]; exact s.1.2.1.2.2.1.2.1)
theorem j_settle {h h' g g' : HS} {p v : Int32} {q : Nat} (s : PS h g) (hp : p.toInt = (q : Int)) (hq : (q : Int) < (eA g 0 0 1).toInt) (v2 : 2 ≤ v.toInt) (v5 : v.toInt ≤ 5) (to_ : v.toInt ≤ 4 → 0 ≤ (gc (eA g 0 0) 30 q 5).toInt ∧ (gc (eA g 0 0) 30 q 5).toInt < (eA g 0 0 0).toInt) (e1 : f_X4_settle h p v = some h') (e2 : f_X9_comesThere_50 g p v = some g') : PS h' g' ∧ (∀ k : Nat, (∀ c : Nat, c < 9 → ¬ k = 30 + (9 * q + c)) → eA g' 0 0 k = eA g 0 0 k) := by
  obtain ⟨n1, n0, n4⟩ := std_n s.1
  have s3 : eI h 1 3 = eA g 0 0 1 := s.1.1.1.1
  have s5 : eI h 1 5 = eA g 0 0 120 := s.1.1.1.2.2.1
  have s7 : eI h 1 7 = eA g 0 0 121 := s.1.1.1.2.2.2.2.1
  have dd : 0 ≤ (eA g 0 0 121).toInt ∧ (eA g 0 0 121).toInt ≤ 999 := s.1.2.1.2.2.1.2.1
  unfold f_X4_settle at e1
  obtain ⟨h1, a1, e1⟩ := ob1_some e1
  have E1 := cp_setGoose (q := q) (k := 4) a1 hp rfl (by rw [s3]; exact hq) (by rw [s3]; exact n1.2) (by decide)
  subst E1
  obtain ⟨h2, a2, e1⟩ := ob1_some e1
  have E2 := cp_setGoose (q := q) (k := 7) a2 hp rfl (by show (q : Int) < (eI h 1 3).toInt; rw [s3]; exact hq) (by show (eI h 1 3).toInt ≤ 10; rw [s3]; exact n1.2) (by decide)
  subst E2
  cases e1
  unfold f_X9_comesThere_50 at e2
  obtain ⟨g1, b1, e2⟩ := ob1_some e2
  have F1 := mp_puts (q := q) (k := 4) b1 hp rfl (by omega) (by decide)
  subst F1
  obtain ⟨g2, b2, e2⟩ := ob1_some e2
  have F2 := mp_puts (q := q) (k := 7) b2 hp rfl (by omega) (by decide)
  subst F2
  cases e2
  obtain ⟨X, hX⟩ : ∃ X : Nat → Int32, X = upd (eA g 0 0) (30 + (9 * q + 4)) v := ⟨_, rfl⟩
  have X121 : X 121 = eA g 0 0 121 := by rw [hX]; exact ud_ne (by omega)
  have R := FIN (q := q) (h' := sA (sA h 1 0 (upd (eA h 1 0) (9 * q + 4) v)) 1 0 (upd (upd (eA h 1 0) (9 * q + 4) v) (9 * q + 7) (eI h 1 7))) (B := upd X (30 + (9 * q + 7)) (X 121)) s.1.1 s.1.2.1 s.2 hq (fun k hc _ => by rw [ud_ne (hc 7 (by decide)), hX, ud_ne (hc 4 (by decide))]) (Fr_sA (by decide) (Fr_sA (by decide) (Fr_refl _ _))) (by
    rw [X121, ← s7, hX]
    exact GEE_upd (GEE_upd s.1.1.2.1 (by omega)) (by omega)) (by
    rw [ud_ne (by omega), hX, ud_ne (by omega)]
    exact s5) (by
    rw [ud_ne (by omega), hX, ud_ne (by omega)]
    exact s.1.2.1.2.2.1.1) (fun gr5 => by
    unfold GR at gr5 ⊢
    rw [X121, hX]
    simp (disch := omega) only [gc_upd_ne, gc_upd_eq]
    omega)
  have U : ∀ k : Nat, (∀ c : Nat, c < 9 → ¬ k = 30 + (9 * q + c)) → upd X (30 + (9 * q + 7)) (X 121) k = eA g 0 0 k := fun k hc => by rw [ud_ne (hc 7 (by decide)), hX, ud_ne (hc 4 (by decide))]
  rw [hX] at R U
  exact ⟨PS_mk (S := [(1, 1, 0)]) (T := [(1, 0, 0)]) s R (U 3 (fun c hc => by omega)) (Fr_sA (by decide) (Fr_sA (by decide) (Fr_refl _ _))) (Fr_sA (by decide) (Fr_sA (by decide) (Fr_refl _ _))) (by decide) (by decide), U⟩
theorem fate_gr {A : Nat → Int32} (rg : RG A) {q : Nat} (hq : (q : Int) < (A 1).toInt) (f : gc A 30 q 4 = 1) : 0 ≤ (gc A 30 q 5).toInt ∧ (gc A 30 q 5).toInt < (A 0).toInt := by
  have gr := rg.2.2.1.2.2 q hq
  have y1 : (1 : Int32).toInt = 1 := rfl
  unfold GR at gr
  rw [f] at gr
  omega
/-- she comes to the market -/
theorem j_comes {h h7 h8 g g' : HS} {p r7 : Int32} {q : Nat} (s : PS h g) (hp : p.toInt = (q : Int)) (hq : (q : Int) < (eA g 0 0 1).toInt) (fa : gc (eA g 0 0) 30 q 4 = 1) (e1 : f_X8_fateAtMarket h p = some (r7, h7)) (e3 : f_X4_settle h7 p r7 = some h8) (e2 : f_X9_comesThere g p = some g') : PS h8 g' ∧ (∀ k : Nat, ¬ k = 122 → (∀ c : Nat, c < 9 → ¬ k = 30 + (9 * q + c)) → eA g' 0 0 k = eA g 0 0 k) := by
  obtain ⟨n1, n0, n4⟩ := std_n s.1
  have tt := fate_gr s.1.2.1 hq fa
  obtain ⟨m, hm⟩ : ∃ m : Nat, (gc (eA g 0 0) 30 q 5).toInt = (m : Int) := ⟨(gc (eA g 0 0) 30 q 5).toInt.toNat, by omega⟩
  have m0 : (m : Int) < (eA g 0 0 0).toInt := by omega
  unfold f_X8_fateAtMarket f_X8_fateAtMarket_78 at e1
  obtain ⟨h1, a1, e1⟩ := ob1_some e1
  have nt := cp_lookTrav s.1 a1 hp hq hm m0
  have f1 := w_f_X1_lookAtTraveller _ _ _ a1
  have s1 : PS h1 g := PS_fr s f1 (Fr_refl [] g) (by decide) (by decide) (by decide) (by decide)
  obtain ⟨r2, h2, a2, e1⟩ := ob2_some e1
  unfold f_X9_comesThere f_X9_comesThere_49 at e2
  obtain ⟨d1, g1, b1, e2⟩ := ob2_some e2
  obtain ⟨i1, i2, i3, i4⟩ := j_draw s1 a2 b1
  have i1 : r2 = d1 := i1
  have i2 : PS h2 g1 := i2
  have i3 : ∀ k : Nat, ¬ k = 122 → eA g1 0 0 k = eA g 0 0 k := i3
  have i4 : eA h2 6 1 = eA h1 6 1 := i4
  obtain ⟨r3, h3, a3, e1⟩ := ob2_some e1
  obtain ⟨d2, g2, b2, e2⟩ := ob2_some e2
  have G1 : ∀ k : Nat, k < 9 → gc (eA g1 0 0) 30 q k = gc (eA g 0 0) 30 q k := fun k hk => i3 _ (by omega)
  have nt1 : NMT (eA h2 6 1) p (eA g1 0 0) q m := by
    unfold NMT at *
    rw [i4, G1 0 (by decide), G1 1 (by decide), G1 2 (by decide), G1 3 (by decide), G1 5 (by decide), G1 6 (by decide), i3 (10 + (3 * m + 1)) (by omega), i3 (10 + (3 * m + 2)) (by omega)]
    exact nt
  have jm := j_market i2.1 (Or.inl rfl) hp (by rw [i3 1 (by decide)]; exact hq) (by rw [G1 5 (by decide)]; exact hm) (by rw [i3 0 (by decide)]; exact m0) nt1 a3 b2
  have jm : r3 = d2 := jm
  have f3 := w_f_X1_rule _ _ _ a3
  have k2 := w_f_X9_marketOf _ _ _ _ b2
  have f3 : Fr S_X1_rule h2 h3 := f3
  have k2 : Fr S_X9_marketOf g1 g2 := k2
  have s3 : PS h3 g2 := PS_fr i2 f3 k2 (by decide) (by decide) (by decide) (by decide)
  have g20 : eA g2 0 0 = eA g1 0 0 := k2.2.1 0 0 (by decide)
  have q2 : (q : Int) < (eA g2 0 0 1).toInt := by rw [g20, i3 1 (by decide)]; exact hq
  have c13 : eI h3 1 3 = eA g2 0 0 1 := s3.1.1.1.1
  have n12 : (eI h3 1 3).toInt ≤ 10 := by rw [c13]; exact s3.1.2.1.1.1.2
  -- how it ends, from a state that differs from the first in the draws alone
  have fin : ∀ (hx gx : HS) (v : Int32), PS hx gx → (∀ k : Nat, ¬ k = 122 → eA gx 0 0 k = eA g 0 0 k) → 2 ≤ v.toInt → v.toInt ≤ 5 → f_X4_settle hx p v = some h8 → f_X9_comesThere_50 gx p v = some g' → PS h8 g' ∧ (∀ k : Nat, ¬ k = 122 → (∀ c : Nat, c < 9 → ¬ k = 30 + (9 * q + c)) → eA g' 0 0 k = eA g 0 0 k) := by
    intro hx gx v sx ex v2 v5 y1 y2
    have g5 : gc (eA gx 0 0) 30 q 5 = gc (eA g 0 0) 30 q 5 := ex _ (by omega)
    obtain ⟨w1, w2⟩ := j_settle sx hp (by rw [ex 1 (by decide)]; exact hq) v2 v5 (fun _ => by rw [g5, ex 0 (by decide)]; exact tt) y1 y2
    exact ⟨w1, fun k k1 k2 => (w2 k k2).trans (ex k k1)⟩
  have ex2 : ∀ k : Nat, ¬ k = 122 → eA g2 0 0 k = eA g 0 0 k := fun k hk => by rw [g20]; exact i3 k hk
  rw [i1, jm] at e1
  by_cases c : d2 ≤ d1
  · rw [if_pos c] at e2
    rw [if_neg (fun y => by have := gi_of_lt y; have := gi_of_le c; omega)] at e1
    obtain ⟨rfl, rfl⟩ := Prod.mk.inj (Option.some.inj e1)
    exact fin h3 g2 2 s3 ex2 (by decide) (by decide) e3 e2
  · rw [if_neg c] at e2
    rw [if_pos (gi_lt (gi_of_nle c))] at e1
    obtain ⟨r5, h5, a5, e1⟩ := ob2_some e1
    obtain ⟨rfl, rfl⟩ := pr_inj (cp_ofGoose (q := q) (k := 2) a5 hp rfl (by rw [c13]; exact q2) n12 (by decide))
    obtain ⟨d4, g4, b4, e2⟩ := ob2_some e2
    obtain ⟨rfl, rfl⟩ := pr_inj (mp_ofGoose (q := q) (k := 2) b4 hp rfl (by omega) (by decide))
    rw [sr_g s3.1.1 q2 (show 2 < 9 by decide)] at e1
    by_cases c2 : gc (eA g2 0 0) 30 q 2 = -1
    · rw [if_pos c2] at e1 e2
      obtain ⟨rfl, rfl⟩ := Prod.mk.inj (Option.some.inj e1)
      exact fin h3 g2 3 s3 ex2 (by decide) (by decide) e3 e2
    · rw [if_neg c2] at e1 e2
      obtain ⟨r6, h6, a6, e1⟩ := ob2_some e1
      obtain ⟨d6, g6, b6, e2⟩ := ob2_some e2
      obtain ⟨j1, j2, j3, j4⟩ := j_draw s3 a6 b6
      have j1 : r6 = d6 := j1
      have j2 : PS h6 g6 := j2
      have j3 : ∀ k : Nat, ¬ k = 122 → eA g6 0 0 k = eA g2 0 0 k := j3
      have j4 : eA h6 6 1 = eA h3 6 1 := j4
      have ex6 : ∀ k : Nat, ¬ k = 122 → eA g6 0 0 k = eA g 0 0 k := fun k hk => (j3 k hk).trans (ex2 k hk)
      obtain ⟨r9, h9, a9, e1⟩ := ob2_some e1
      obtain ⟨d9, g9, b9, e2⟩ := ob2_some e2
      have G6 : ∀ k : Nat, k < 9 → gc (eA g6 0 0) 30 q k = gc (eA g 0 0) 30 q k := fun k hk => ex6 _ (by omega)
      have nt6 : NMT (eA h6 6 1) p (eA g6 0 0) q m := by
        unfold NMT at *
        rw [j4, f3.2.1 6 1 (by decide), i4, G6 0 (by decide), G6 1 (by decide), G6 2 (by decide), G6 3 (by decide), G6 5 (by decide), G6 6 (by decide), ex6 (10 + (3 * m + 1)) (by omega), ex6 (10 + (3 * m + 2)) (by omega)]
        exact nt
      have jm2 := j_market j2.1 (Or.inr rfl) hp (by rw [ex6 1 (by decide)]; exact hq) (by rw [G6 5 (by decide)]; exact hm) (by rw [ex6 0 (by decide)]; exact m0) nt6 a9 b9
      have jm2 : r9 = d9 := jm2
      have f9 := w_f_X1_rule _ _ _ a9
      have k9 := w_f_X9_marketOf _ _ _ _ b9
      have f9 : Fr S_X1_rule h6 h9 := f9
      have k9 : Fr S_X9_marketOf g6 g9 := k9
      have s9 : PS h9 g9 := PS_fr j2 f9 k9 (by decide) (by decide) (by decide) (by decide)
      have g90 : eA g9 0 0 = eA g6 0 0 := k9.2.1 0 0 (by decide)
      have ex9 : ∀ k : Nat, ¬ k = 122 → eA g9 0 0 k = eA g 0 0 k := fun k hk => by rw [g90]; exact ex6 k hk
      rw [j1, jm2] at e1
      by_cases c9 : d9 ≤ d6
      · rw [if_pos c9] at e1 e2
        obtain ⟨rfl, rfl⟩ := Prod.mk.inj (Option.some.inj e1)
        exact fin h9 g9 3 s9 ex9 (by decide) (by decide) e3 e2
      · rw [if_neg c9] at e1 e2
        obtain ⟨rfl, rfl⟩ := Prod.mk.inj (Option.some.inj e1)
        exact fin h9 g9 4 s9 ex9 (by decide) (by decide) e3 e2
