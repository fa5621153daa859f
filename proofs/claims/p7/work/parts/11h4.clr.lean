/-! clauses: what both sides keep of a text that is read -/
def LWR (o : Nat) (h g : HS) (c w : Nat) : Prop := 0 ≤ (eA h o 3 w).toInt ∧ (eA h o 3 w).toInt ≤ (eA h o 4 w).toInt ∧ (eA h o 4 w).toInt ≤ (eI h o 5).toInt ∧ (eA g 0 32 c).toInt = (eA h o 3 w).toInt + (c : Int) ∧ CDR (eA h o 2) (eA g 0 37) (eA g 0 38) c (eA h o 3 w).toInt (eA h o 4 w).toInt ∧ (eA g 0 37 ((eA h o 4 w).toInt.toNat + c)).toInt = 408
def CLR (o : Nat) (h g : HS) (c : Nat) : Prop := 0 ≤ (eA g 0 31 c).toInt ∧ (eA g 0 31 c).toInt ≤ 7 ∧ (eA h o 0 (4 * c)).toInt = 16 + (eA g 0 31 c).toInt ∧ ((eA g 0 31 c).toInt ≤ 3 → LWR o h g c (eA g 0 31 c).toInt.toNat) ∧ (4 ≤ (eA g 0 31 c).toInt → eA h o 0 (4 * c + 1) = eA g 0 33 c ∧ ((eA g 0 31 c).toInt ≤ 5 → eA h o 0 (4 * c + 2) = eA g 0 34 c) ∧ ((eA g 0 31 c).toInt = 4 → eA h o 0 (4 * c + 3) = eA g 0 35 c))
def TXR (o : Nat) (h g : HS) : Prop := (eI h o 1).toInt = (eI g 0 29).toInt ∧ (0 ≤ (eI h o 1).toInt ∧ (eI h o 1).toInt ≤ 24) ∧ 0 ≤ (eI h o 5).toInt ∧ (eI g 0 36).toInt = (eI h o 5).toInt + (eI h o 1).toInt ∧ (eI h o 5).toInt ≤ at_ h ∧ (∀ c : Nat, (c : Int) < (eI h o 1).toInt → CLR o h g c) ∧ (∀ w : Nat, w < 4 → ((eA h o 3 w = -1 ∧ ∀ c : Nat, (c : Int) < (eI h o 1).toInt → ¬ (eA g 0 31 c).toInt = (w : Int)) ∨ (¬ eA h o 3 w = -1 ∧ ∃ c : Nat, (c : Int) < (eI h o 1).toInt ∧ (eA g 0 31 c).toInt = (w : Int))))
theorem CLR_keep {o c : Nat} {h g h' g' : HS} {n s r : Int} (x : CLR o h g c) (hc : (c : Int) < n) (k0 : ∀ i : Nat, (i : Int) < 4 * n → eA h' o 0 i = eA h o 0 i) (ks : ∀ i : Nat, (i : Int) < s → eA h' o 2 i = eA h o 2 i) (k3 : ∀ w : Nat, w < 4 → (eA g 0 31 c).toInt = (w : Int) → eA h' o 3 w = eA h o 3 w ∧ eA h' o 4 w = eA h o 4 w) (hs : s = (eI h o 5).toInt) (hs' : s ≤ (eI h' o 5).toInt) (hr : r = s + n) (m31 : eA g' 0 31 c = eA g 0 31 c) (m32 : eA g' 0 32 c = eA g 0 32 c) (m33 : eA g' 0 33 c = eA g 0 33 c) (m34 : eA g' 0 34 c = eA g 0 34 c) (m35 : eA g' 0 35 c = eA g 0 35 c) (mo : ∀ i : Nat, (i : Int) < r → eA g' 0 37 i = eA g 0 37 i ∧ eA g' 0 38 i = eA g 0 38 i) : CLR o h' g' c := by
  obtain ⟨x1, x2, x3, x4, x5⟩ := x
  unfold CLR
  rw [m31, m33, m34, m35, k0 (4 * c) (by omega), k0 (4 * c + 1) (by omega), k0 (4 * c + 2) (by omega), k0 (4 * c + 3) (by omega)]
  refine ⟨x1, x2, x3, fun q => ?_, x5⟩
  have y := x4 q
  have kk := k3 (eA g 0 31 c).toInt.toNat (by omega) (by omega)
  obtain ⟨y1, y2, y3, y4, y5, y6⟩ := y
  unfold LWR
  rw [kk.1, kk.2, m32]
  refine ⟨y1, y2, by omega, y4, fun i q1 q2 => ?_, ?_⟩
  · have a := mo (i + c) (by omega)
    rw [ks i (by omega), a.1, a.2]
    exact y5 i q1 q2
  · rw [(mo _ (by omega)).1]
    exact y6
theorem mp_told {x1 : Int32} : ∀ (n : Nat) (g : HS) (x2 x3 : Int32) (z : Int32 × HS), f_X9_wasTold_4 n g x1 x2 x3 = some z → 0 ≤ x3.toInt → x3.toInt ≤ (eI g 0 29).toInt → (eI g 0 29).toInt ≤ 24 → ((x2 = 0 ∧ ∀ c : Nat, (c : Int) < x3.toInt → ¬ eA g 0 31 c = x1) ∨ (x2 = 1 ∧ ∃ c : Nat, (c : Int) < x3.toInt ∧ eA g 0 31 c = x1)) → z.2 = g ∧ ((z.1 = 0 ∧ ∀ c : Nat, (c : Int) < (eI g 0 29).toInt → ¬ eA g 0 31 c = x1) ∨ (z.1 = 1 ∧ ∃ c : Nat, (c : Int) < (eI g 0 29).toInt ∧ eA g 0 31 c = x1)) := by
  have z1 : (1 : Int32).toInt = 1 := rfl
  intro n
  induction n with
  | zero => intro g x2 x3 z e; cases e
  | succ n ih =>
    intro g x2 x3 z e h0 h1 h2 h3
    rw [f_X9_wasTold_4_s] at e
    by_cases c1 : eI g 0 29 ≤ x3
    · rw [if_pos c1] at e
      have d1 := gi_of_le c1
      obtain ⟨-, e⟩ := ob_if e
      cases e
      refine ⟨rfl, ?_⟩
      rw [show (eI g 0 29).toInt = x3.toInt by omega]
      exact h3
    · rw [if_neg c1] at e
      have d1 := gi_of_nle c1
      have a3 := fb_addI (x := x3) (y := 1) (by omega) (by omega)
      unfold f_X9_wasTold_26 f_X9_wasTold_31 at e
      rcases h3 with ⟨rfl, h3⟩ | ⟨rfl, h3⟩
      · rw [if_pos rfl] at e
        obtain ⟨-, e⟩ := ob_if e
        have ix : x3.toNatClampNeg = x3.toInt.toNat := rfl
        rw [ix] at e
        by_cases c2 : eA g 0 31 x3.toInt.toNat = x1
        · rw [if_pos c2] at e
          exact ih g 1 (x3 + 1) z e (by omega) (by omega) h2 (Or.inr ⟨rfl, x3.toInt.toNat, by omega, c2⟩)
        · rw [if_neg c2] at e
          refine ih g 0 (x3 + 1) z e (by omega) (by omega) h2 (Or.inl ⟨rfl, fun c hc => ?_⟩)
          by_cases q : c = x3.toInt.toNat
          · rw [q]; exact c2
          · exact h3 c (by omega)
      · rw [if_neg (by decide)] at e
        obtain ⟨c, hc, hd⟩ := h3
        exact ih g 1 (x3 + 1) z e (by omega) (by omega) h2 (Or.inr ⟨rfl, c, by omega, hd⟩)
abbrev SPC : CL := [(0, 0, 15), (0, 0, 16), (0, 0, 17), (0, 0, 18), (0, 0, 19), (0, 0, 20), (0, 0, 21), (0, 0, 22), (1, 0, 23), (1, 0, 24), (0, 0, 25), (1, 0, 26), (1, 0, 27), (0, 0, 28), (0, 0, 29), (0, 0, 30), (1, 0, 31), (1, 0, 32), (1, 0, 33), (1, 0, 34), (1, 0, 35), (0, 0, 36), (1, 0, 37), (1, 0, 38)]
def BADC (r : Int32 × HS) (h' g : HS) : Prop := ¬ eI h' 5 0 = 0 ∧ ∃ (N : Nat) (g' : HS), f_X9_text_74 N g' = some r ∧ eI g' 0 19 = eI h' 5 0 ∧ eI g' 0 20 = eI h' 5 1 ∧ Fr SPC g g' ∧ 0 < (eI g' 0 19).toInt
theorem BADC_of {r : Int32 × HS} {h' g g1 : HS} (b : BAD r h' g1) (f : Fr SPC g g1) : BADC r h' g := by
  obtain ⟨x, N, g', a1, a2, a3, a4, a5⟩ := b
  exact ⟨x, N, g', a1, a2, a3, Fr_trans f (Fr_mono (by decide) a4), a5⟩
theorem BADC_fr {S : CL} {r : Int32 × HS} {h' h2 g : HS} (b : BADC r h' g) (f : Fr S h' h2) (n0 : (0, 5, 0) ∉ S) (n1 : (0, 5, 1) ∉ S) : BADC r h2 g := by
  unfold BADC at *
  rw [f.1 5 0 n0, f.1 5 1 n1]
  exact b
/-- where a clause begins -/
def BEG (B : Int → Int) (L : Int) (P : Nat → Int) (o : Nat) (h g : HS) : Prop := TT B L P h g ∧ eI h 5 0 = 0 ∧ eI g 0 19 = 0 ∧ (eI g 0 21).toInt = 0 ∧ (eI g 0 22).toInt = 0 ∧ (eI g 0 25).toInt = 0 ∧ (eI g 0 28).toInt = 4 ∧ (eI h 5 1 = -1 ∧ eI g 0 20 = -1) ∧ TXR o h g
theorem mp_over {g g' : HS} (e : f_X9_clauseIsOver g = some g') : ∃ g1 g2 g3 : HS, f_X9_works g 1 = some g1 ∧ f_X9_emits (sI g1 0 22 0) 408 0 = some g2 ∧ f_X9_next (sI g2 0 29 (eI g2 0 29 + 1)) = some g3 ∧ g' = sI g3 0 28 4 := by
  unfold f_X9_clauseIsOver at e
  obtain ⟨g1, e1, e⟩ := ob1_some e
  obtain ⟨g2, e2, e⟩ := ob1_some e
  obtain ⟨g3, e3, e⟩ := ob1_some e
  cases e
  exact ⟨g1, g2, g3, e1, e2, e3, rfl⟩
/-- a sum is over at the clause's end -/
theorem mp_end1 {B : Int → Int} {L : Int} {P : Nat → Int} {h g : HS} {N : Nat} {r : Int32 × HS} (t : TT B L P h g) (g0 : eI g 0 19 = 0) (et : f_X9_text_74 N g = some r) (s : (eI g 0 28).toInt = 2) (top : (eA g 0 23 ((eI g 0 22).toInt.toNat - 1)).toInt = 1) (nop : NOP 3 (kd h)) : (kd h = 15 ∧ ∃ (N3 : Nat) (g3 : HS), f_X9_clauseIsOver g = some g3 ∧ f_X9_text_74 N3 g3 = some r) ∨ (¬ kd h = 15 ∧ ∃ (N3 : Nat) (g3 : HS), f_X9_errs g 1 = some g3 ∧ f_X9_text_74 N3 g3 = some r) := by
  have z1 : (1 : Int32).toInt = 1 := rfl
  have z4 : (4 : Int32).toInt = 4 := rfl
  have z5 : (5 : Int32).toInt = 5 := rfl
  have z6 : (6 : Int32).toInt = 6 := rfl
  have z59 : (59 : Int32).toInt = 59 := rfl
  obtain ⟨N3, g3, b3, et3⟩ := (mp_turn et g0).2.2.1 s
  have tk2 := TT_tk t
  have nop3 := nop.1 (by omega)
  have sp := lv_spec (kd h)
  have off : ¬ ((eI g 0 17).toInt = 3 ∧ ((eI g 0 18).toInt = 43 ∨ (eI g 0 18).toInt = 45 ∨ (eI g 0 18).toInt = 42 ∨ (eI g 0 18).toInt = 47)) := by
    intro q
    rcases tk2 with u | u | u | u | u
    · omega
    · omega
    · omega
    · omega
    · have := u.2; unfold SG at this; omega
  have b3 := mp_goes_off b3 off
  unfold f_X9_goesOn_65 at b3
  rw [if_neg (fun q => by have := gi_of_eq q; omega)] at b3
  unfold f_X9_goesOn_116 at b3
  rw [if_neg (fun q => by have := gi_of_eq q; omega)] at b3
  unfold f_X9_goesOn_181 at b3
  rw [if_neg (fun q => by have := gi_of_eq q; omega), if_pos (gi_eq (by omega))] at b3
  obtain ⟨r24, g24, b24, b3⟩ := ob2_some b3
  obtain ⟨v1, v2⟩ := mp_isSign b24
  obtain rfl : g = g24 := v1.symm
  have same : (eI g 0 17).toInt = 3 ∧ (eI g 0 18).toInt = 59 ↔ kd h = 15 := by
    rcases tk2 with u | u | u | u | u
    · omega
    · omega
    · omega
    · omega
    · have := u.2; unfold SG at this; omega
  rcases v2 with ⟨v2, v3⟩ | ⟨v2, v3⟩
  · replace v2 : r24 = 0 := v2
    rw [if_pos v2] at b3
    unfold f_X9_goesOn_245 f_X9_goesOn_250 at b3
    obtain ⟨g5, b5, b3⟩ := ob1_some b3
    cases b3
    exact Or.inr ⟨fun q => v3 (same.mpr q), N3, _, b5, et3⟩
  · replace v2 : r24 = 1 := v2
    rw [if_neg (by rw [v2]; decide)] at b3
    unfold f_X9_goesOn_250 at b3
    obtain ⟨g5, b5, b3⟩ := ob1_some b3
    cases b3
    exact Or.inl ⟨same.mp v3, N3, _, b5, et3⟩
/-- a question is over at the clause's end -/
theorem mp_end0 {B : Int → Int} {L : Int} {P : Nat → Int} {h g : HS} {N : Nat} {r : Int32 × HS} (t : TT B L P h g) (g0 : eI g 0 19 = 0) (et : f_X9_text_74 N g = some r) (s : (eI g 0 28).toInt = 3) (top : (eA g 0 23 ((eI g 0 22).toInt.toNat - 1)).toInt = 2) (nop : NOP 0 (kd h)) : (kd h = 15 ∧ ∃ (N3 : Nat) (g3 : HS), f_X9_clauseIsOver g = some g3 ∧ f_X9_text_74 N3 g3 = some r) ∨ (¬ kd h = 15 ∧ ∃ (N3 : Nat) (g3 : HS), f_X9_errs g 1 = some g3 ∧ f_X9_text_74 N3 g3 = some r) := by
  have z2 : (2 : Int32).toInt = 2 := rfl
  have z10 : (10 : Int32).toInt = 10 := rfl
  have z11 : (11 : Int32).toInt = 11 := rfl
  have z59 : (59 : Int32).toInt = 59 := rfl
  obtain ⟨N3, g3, b3, et3⟩ := (mp_turn et g0).2.2.2.1 s
  have tk2 := TT_tk t
  have nop3 := nop.2 (by omega)
  have sp := lv_spec (kd h)
  have off : ¬ ((eI g 0 17).toInt = 1 ∧ ((eI g 0 18).toInt = 10 ∨ (eI g 0 18).toInt = 11)) := by
    intro q
    rcases tk2 with u | u | u | u | u
    · omega
    · omega
    · omega
    · omega
    · omega
  unfold f_X9_asksOn at b3
  obtain ⟨r1, g1, b1, b3⟩ := ob2_some b3
  obtain ⟨v1, v2⟩ := mp_isWord b1
  obtain rfl : g = g1 := v1.symm
  rcases v2 with ⟨v2, v3⟩ | ⟨v2, v3⟩
  · replace v2 : r1 = 0 := v2
    rw [if_pos v2] at b3
    obtain ⟨r3, g3', b3', b3⟩ := ob2_some b3
    obtain ⟨w1, w2⟩ := mp_isWord b3'
    obtain rfl : g = g3' := w1.symm
    rcases w2 with ⟨w2, w3⟩ | ⟨w2, w3⟩
    · replace w2 : r3 = 0 := w2
      rw [if_pos w2] at b3
      obtain ⟨r5, g5, b5, b3⟩ := ob2_some b3
      obtain ⟨-, q⟩ := mp_top b5
      cases q
      rw [if_pos (gi_eq (by omega))] at b3
      obtain ⟨r24, g24, b24, b3⟩ := ob2_some b3
      obtain ⟨y1, y2⟩ := mp_isSign b24
      obtain rfl : g = g24 := y1.symm
      have same : (eI g 0 17).toInt = 3 ∧ (eI g 0 18).toInt = 59 ↔ kd h = 15 := by
        rcases tk2 with u | u | u | u | u
        · omega
        · omega
        · omega
        · omega
        · have := u.2; unfold SG at this; omega
      rcases y2 with ⟨y2, y3⟩ | ⟨y2, y3⟩
      · replace y2 : r24 = 0 := y2
        rw [if_pos y2] at b3
        unfold f_X9_asksOn_72 f_X9_asksOn_77 at b3
        obtain ⟨g6, b6, b3⟩ := ob1_some b3
        cases b3
        exact Or.inr ⟨fun q => y3 (same.mpr q), N3, _, b6, et3⟩
      · replace y2 : r24 = 1 := y2
        rw [if_neg (by rw [y2]; decide)] at b3
        unfold f_X9_asksOn_77 at b3
        obtain ⟨g6, b6, b3⟩ := ob1_some b3
        cases b3
        exact Or.inl ⟨same.mp y3, N3, _, b6, et3⟩
    · exact absurd ⟨w3.1, Or.inr w3.2⟩ off
  · exact absurd ⟨v3.1, Or.inl v3.2⟩ off
/-- two sides in a deed: both go on, or both have failed at one place -/
def DS (B : Int → Int) (L : Int) (P : Nat → Int) (a : Int) (h g : HS) : Prop := (TT B L P h g ∧ eI h 5 0 = 0 ∧ eI g 0 19 = 0 ∧ a ≤ at_ h ∧ eI h 5 1 = -1 ∧ eI g 0 20 = -1) ∨ (¬ eI h 5 0 = 0 ∧ 0 < (eI g 0 19).toInt ∧ eI g 0 19 = eI h 5 0 ∧ eI g 0 20 = eI h 5 1)
theorem DS_g {B : Int → Int} {L : Int} {P : Nat → Int} {S : CL} {a : Int} {h g g' : HS} (ds : DS B L P a h g) (f : Fr S g g') (h0 : (0, 0, 14) ∉ S) (h1 : (1, 0, 2) ∉ S) (h2 : (0, 0, 15) ∉ S) (h3 : (0, 0, 16) ∉ S) (h4 : (0, 0, 17) ∉ S) (h5 : (0, 0, 18) ∉ S) (h6 : (0, 0, 19) ∉ S) (h7 : (0, 0, 20) ∉ S) : DS B L P a h g' := by
  rcases ds with ⟨t, p0, g0, ha⟩ | ⟨p0, g0, q1, q2⟩
  · exact Or.inl ⟨TT_g t f h0 h1 h2 h3 h4 h5, p0, (f.1 0 19 h6).trans g0, ha.1, ha.2.1, (f.1 0 20 h7).trans ha.2.2⟩
  · refine Or.inr ⟨p0, ?_, ?_, ?_⟩
    · rw [f.1 0 19 h6]; exact g0
    · rw [f.1 0 19 h6]; exact q1
    · rw [f.1 0 20 h7]; exact q2
theorem ds_expect {B : Int → Int} {L : Int} {P : Nat → Int} {a : Int} {h h' g g' : HS} {k w : Int32} (ds : DS B L P a h g) (e : f_X2_expect h k = some h') (n : f_X9_wants g w = some g') (hk : k.toInt = 16 + w.toInt) (hw : 0 ≤ w.toInt ∧ w.toInt ≤ 21) : DS B L P a h' g' := by
  unfold f_X2_expect f_X2_expect_29 at e
  unfold f_X9_wants at n
  rcases ds with ⟨t, p0, g0, ha⟩ | ⟨p0, g0, q1, q2⟩
  · rw [if_pos p0] at e
    rw [if_pos g0] at n
    obtain ⟨r2, h2, e2, e⟩ := ob2_some e
    obtain ⟨u1, u2⟩ := TT_kind t e2
    obtain rfl : h = h2 := u1.symm
    replace u2 : r2.toInt = kd h := u2
    obtain ⟨r3, g3, n3, n⟩ := ob2_some n
    obtain ⟨y1, y2⟩ := mp_isWord n3
    obtain rfl : g = g3 := y1.symm
    have tk := TT_tk t
    have same : (eI g 0 17).toInt = 1 ∧ (eI g 0 18).toInt = w.toInt ↔ kd h = 16 + w.toInt := by
      rcases tk with u | u | u | u | u
      · omega
      · omega
      · omega
      · omega
      · have := u.2; unfold SG at this; omega
    rcases y2 with ⟨y2, y3⟩ | ⟨y2, y3⟩
    · replace y2 : r3 = 0 := y2
      rw [if_pos y2] at n
      rw [if_neg (fun q => by have := gi_of_eq q; exact y3 (same.mpr (by omega)))] at e
      obtain ⟨h4, e4, e⟩ := ob1_some e
      cases e
      obtain ⟨g4, n4, n⟩ := ob1_some n
      obtain ⟨rfl, rfl⟩ := TT_fail t p0 g0 e4 n4
      unfold f_X9_wants_20 f_X9_wants_31 at n
      rw [if_neg (show ¬ eI (sI (sI g 0 19 1) 0 20 (eI g 0 16)) 0 19 = 0 from (by decide : ¬ (1 : Int32) = 0))] at n
      cases n
      exact Or.inr ⟨(by decide : ¬ (1 : Int32) = 0), (by decide : 0 < (1 : Int32).toInt), rfl, rfl⟩
    · replace y2 : r3 = 1 := y2
      rw [if_neg (by rw [y2]; decide)] at n
      have kk := same.mp y3
      rw [if_pos (gi_eq (by omega))] at e
      obtain ⟨h5, e5, e⟩ := ob1_some e
      cases e
      unfold f_X9_wants_20 f_X9_wants_31 at n
      rw [if_pos g0] at n
      obtain ⟨g5, n5, n⟩ := ob1_some n
      cases n
      obtain ⟨t5, eh5, ea⟩ := TT_adv t (by omega) e5 (Fr_refl [] g) (by decide) (by decide) (by decide) n5
      have fn := w_f_X9_next _ _ n5
      refine Or.inl ⟨t5, ?_, (fn.1 0 19 (by decide)).trans g0, by have := ha.1; omega, ?_, (fn.1 0 20 (by decide)).trans ha.2.2⟩
      · rw [eh5]; exact p0
      · rw [eh5]; exact ha.2.1
  · rw [if_neg p0] at e
    cases e
    have w0 : ¬ eI g 0 19 = 0 := fun q => by rw [q] at g0; exact absurd g0 (by decide)
    rw [if_neg w0] at n
    unfold f_X9_wants_20 f_X9_wants_31 at n
    rw [if_neg w0] at n
    cases n
    exact Or.inr ⟨p0, g0, q1, q2⟩
