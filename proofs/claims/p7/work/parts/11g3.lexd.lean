/-! the class's split: each token is told by Tok -/
theorem cx_swl {h : HS} {x2 : Int32} (hL : cL h ≤ 300) : ∀ (n : Nat) (x3 : Int32) (z : Int32 × HS), f_X7_splitWord_2 n h x2 x3 = some z → 0 ≤ x3.toInt → x3.toInt ≤ cL h → ∃ y : Int32, x3.toInt ≤ y.toInt ∧ y.toInt ≤ cL h ∧ (∀ j : Int, x3.toInt ≤ j → j < y.toInt → isAl (cB h j)) ∧ (y.toInt = cL h ∨ ¬ isAl (cB h y.toInt)) ∧ f_X7_splitWord_27 h x2 y = some z := by
  have z1 : (1 : Int32).toInt = 1 := rfl
  intro n
  induction n with
  | zero => intro x3 z e; cases e
  | succ n ih =>
    intro x3 z e h0 h1
    rw [f_X7_splitWord_2_s] at e
    by_cases c1 : eI h 3 1 ≤ x3
    · rw [if_pos c1] at e
      have d1 := gi_of_le c1
      exact ⟨x3, Int.le_refl _, h1, fun j a b => absurd (show j < j by omega) (by omega), Or.inl (by unfold cL at *; omega), e⟩
    · rw [if_neg c1] at e
      have d1 : x3.toInt < cL h := gi_of_nle c1
      obtain ⟨r2, h2, e2, e⟩ := ob2_some e
      obtain ⟨g1, g2⟩ := cx_byteAt e2 hL
      obtain rfl : h = h2 := g1.symm
      rcases g2 with ⟨-, -, g2⟩ | ⟨g2, -⟩
      · have g2 : r2.toInt = cB h x3.toInt := g2
        obtain ⟨r3, e3, e⟩ := ob1_some e
        rcases cx_isAlpha e3 with ⟨rfl, q⟩ | ⟨rfl, q⟩
        · rw [if_pos rfl] at e
          exact ⟨x3, Int.le_refl _, h1, fun j a b => absurd (show j < j by omega) (by omega), Or.inr (by rw [← g2]; exact q), e⟩
        · rw [if_neg (by decide)] at e
          have a3 := fb_addI (x := x3) (y := 1) (by omega) (by omega)
          obtain ⟨y, k1, k2, k3, k4, k5⟩ := ih (x3 + 1) z e (by omega) (by omega)
          refine ⟨y, by omega, k2, fun j a b => ?_, k4, k5⟩
          by_cases c : j = x3.toInt
          · rw [c, ← g2]; exact q
          · exact k3 j (by omega) b
      · exact absurd ⟨h0, d1⟩ g2
theorem cx_snl {h : HS} {x2 : Int32} (hL : cL h ≤ 300) : ∀ (n : Nat) (x3 x4 : Int32) (z : Int32 × HS), f_X7_splitNumber_5 n h x2 x3 x4 = some z → 0 ≤ x3.toInt → x3.toInt ≤ cL h → 0 ≤ x4.toInt → x4.toInt ≤ 10000 → ∃ (y v : Int32), x3.toInt ≤ y.toInt ∧ y.toInt ≤ cL h ∧ (∀ j : Int, x3.toInt ≤ j → j < y.toInt → isNu (cB h j)) ∧ (y.toInt = cL h ∨ ¬ isNu (cB h y.toInt)) ∧ v.toInt = nvC x4.toInt (seg (cB h) x3.toInt (y.toInt - x3.toInt).toNat) ∧ f_X7_splitNumber_52 h x2 y v = some z := by
  have z1 : (1 : Int32).toInt = 1 := rfl
  have z48 : (48 : Int32).toInt = 48 := rfl
  have z4 : (10000 : Int32).toInt = 10000 := rfl
  intro n
  induction n with
  | zero => intro x3 x4 z e; cases e
  | succ n ih =>
    intro x3 x4 z e h0 h1 h2 h3
    rw [f_X7_splitNumber_5_s] at e
    by_cases c1 : eI h 3 1 ≤ x3
    · rw [if_pos c1] at e
      have d1 := gi_of_le c1
      refine ⟨x3, x4, Int.le_refl _, h1, fun j a b => absurd (show j < j by omega) (by omega), Or.inl (by unfold cL at *; omega), ?_, e⟩
      rw [show (x3.toInt - x3.toInt).toNat = 0 by omega]; rfl
    · rw [if_neg c1] at e
      have d1 : x3.toInt < cL h := gi_of_nle c1
      obtain ⟨r2, h2', e2, e⟩ := ob2_some e
      obtain ⟨g1, g2⟩ := cx_byteAt e2 hL
      obtain rfl : h = h2' := g1.symm
      rcases g2 with ⟨-, -, g2⟩ | ⟨g2, -⟩
      · have g2 : r2.toInt = cB h x3.toInt := g2
        obtain ⟨r3, e3, e⟩ := ob1_some e
        rcases cx_isNumeral e3 with ⟨rfl, q⟩ | ⟨rfl, q⟩
        · rw [if_pos rfl] at e
          refine ⟨x3, x4, Int.le_refl _, h1, fun j a b => absurd (show j < j by omega) (by omega), Or.inr (by rw [← g2]; exact q), ?_, e⟩
          rw [show (x3.toInt - x3.toInt).toNat = 0 by omega]; rfl
        · rw [if_neg (by decide)] at e
          obtain ⟨r5, h5, e5, e⟩ := ob2_some e
          obtain ⟨g3, g4⟩ := cx_byteAt e5 hL
          obtain rfl : h = h5 := g3.symm
          rcases g4 with ⟨-, -, g4⟩ | ⟨g4, -⟩
          · have g4 : r5.toInt = cB h x3.toInt := g4
            have q5 : 48 ≤ r5.toInt ∧ r5.toInt ≤ 57 := by rw [g4, ← g2]; exact q
            have a3 := fb_addI (x := x3) (y := 1) (by omega) (by omega)
            have b1 := fb_mulK (x := x4) (y := 10) (k := 10) rfl (by omega) (by omega)
            have b2 := fb_addI (x := x4 * 10) (y := r5) (by omega) (by omega)
            have b3 := fb_subI (x := x4 * 10 + r5) (y := 48) (by omega) (by omega)
            have b4 : (if x4 * 10 + r5 - 48 < 10000 then x4 * 10 + r5 - 48 else 10000).toInt = if x4.toInt * 10 + cB h x3.toInt - 48 < 10000 then x4.toInt * 10 + cB h x3.toInt - 48 else 10000 := by
              rw [← g4]
              by_cases c : x4 * 10 + r5 - 48 < 10000
              · have := gi_of_lt c
                rw [if_pos c, if_pos (by omega)]; omega
              · have := gi_of_nlt c
                rw [if_neg c, if_neg (by omega)]; rfl
            have b5 : 0 ≤ (if x4 * 10 + r5 - 48 < 10000 then x4 * 10 + r5 - 48 else 10000).toInt ∧ (if x4 * 10 + r5 - 48 < 10000 then x4 * 10 + r5 - 48 else 10000).toInt ≤ 10000 := by
              by_cases c : x4 * 10 + r5 - 48 < 10000
              · have := gi_of_lt c
                rw [if_pos c]; omega
              · rw [if_neg c]; omega
            obtain ⟨y, v, k1, k2, k3, k4, k5, k6⟩ := ih (x3 + 1) _ z e (by omega) (by omega) b5.1 b5.2
            refine ⟨y, v, by omega, k2, fun j a b => ?_, k4, ?_, k6⟩
            · by_cases c : j = x3.toInt
              · rw [c, ← g2]; exact q
              · exact k3 j (by omega) b
            · obtain ⟨m, hm⟩ : ∃ m : Nat, (y.toInt - x3.toInt).toNat = m + 1 := ⟨(y.toInt - x3.toInt).toNat - 1, by omega⟩
              rw [k5, hm, b4, show (y.toInt - (x3 + 1).toInt).toNat = m by omega, show (x3 + 1).toInt = x3.toInt + 1 by omega]
              rfl
          · exact absurd ⟨h0, d1⟩ g4
      · exact absurd ⟨h0, d1⟩ g2
/-- the tokens that stand, each behind the other; the next one is looked for from P c on -/
def TS (B : Int → Int) (L : Int) (h : HS) (P : Nat → Int) (x : Int) : Prop := P 0 = 0 ∧ 0 ≤ (eI h 4 3).toInt ∧ (eI h 4 3).toInt ≤ x ∧ x ≤ L ∧ (∀ i : Nat, (i : Int) < (eI h 4 3).toInt → ¬ (eA h 4 0 i).toInt = 0 ∧ Tok B L (P i) (eA h 4 0 i).toInt (eA h 4 1 i).toInt (eA h 4 2 i).toInt (P (i + 1))) ∧ P (eI h 4 3).toInt.toNat ≤ x ∧ 0 ≤ P (eI h 4 3).toInt.toNat ∧ (∀ j : Int, P (eI h 4 3).toInt.toNat ≤ j → j < x → isBl (B j))
theorem TS_add {B : Int → Int} {L : Int} {h h' : HS} {P : Nat → Int} {x q : Int} {k s v : Int32} (t : TS B L h P x) (hL : L ≤ 300) (e : f_X7_add h k s v = some h') (hs : s.toInt = x) (hx : x < L) (hk : ¬ k.toInt = 0) (hq : x < q) (hqL : q ≤ L) (tk : TokE L k.toInt x q ∨ TokW B L k.toInt x q ∨ TokN B L k.toInt x v.toInt q ∨ TokS B L k.toInt x q) : ∃ P' : Nat → Int, TS B L h' P' q := by
  obtain ⟨t1, t2, t3, t4, t5, t6, t7, t8⟩ := t
  have z1 : (1 : Int32).toInt = 1 := rfl
  have e' := cx_add e t2 (by omega)
  subst e'
  have a1 := fb_addI (x := eI h 4 3) (y := 1) (by omega) (by omega)
  obtain ⟨c, hc⟩ := Int.eq_ofNat_of_zero_le t2
  have hc' : (eI h 4 3).toInt.toNat = c := by omega
  rw [hc'] at t6 t7 t8 ⊢
  have ec : (eI h 4 3 + 1).toInt.toNat = c + 1 := by omega
  refine ⟨fun i => if i = c + 1 then q else P i, ?_⟩
  have hP : ∀ i : Nat, i ≤ c → (if i = c + 1 then q else P i) = P i := fun i hi => if_neg (by omega)
  have hT : Tok B L (P c) k.toInt s.toInt v.toInt q := by rw [hs]; exact ⟨t6, by omega, t8, tk⟩
  refine ⟨(hP 0 (by omega)).trans t1, ?_, ?_, hqL, ?_, ?_, ?_, ?_⟩
  · show 0 ≤ (eI h 4 3 + 1).toInt; omega
  · show (eI h 4 3 + 1).toInt ≤ q; omega
  · intro i hi
    have hi : (i : Int) < (eI h 4 3 + 1).toInt := hi
    show ¬ (upd (eA h 4 0) c k i).toInt = 0 ∧ Tok B L (if i = c + 1 then q else P i) (upd (eA h 4 0) c k i).toInt (upd (eA h 4 1) c s i).toInt (upd (eA h 4 2) c v i).toInt (if i + 1 = c + 1 then q else P (i + 1))
    unfold upd
    by_cases ci : i = c
    · rw [if_pos ci, if_pos ci, if_pos ci, if_neg (by omega), if_pos (by omega), ci]
      exact ⟨hk, hT⟩
    · rw [if_neg ci, if_neg ci, if_neg ci, if_neg (by omega), if_neg (by omega)]
      exact t5 i (by omega)
  · show (if (eI h 4 3 + 1).toInt.toNat = c + 1 then q else _) ≤ q
    rw [if_pos ec]; exact Int.le_refl _
  · show 0 ≤ (if (eI h 4 3 + 1).toInt.toNat = c + 1 then q else _)
    rw [if_pos ec]; omega
  · intro j h1 h2
    have h1 : (if (eI h 4 3 + 1).toInt.toNat = c + 1 then q else _) ≤ j := h1
    rw [if_pos ec] at h1
    omega
/-- what a split tape is: its tokens, the end being the last -/
def TE (B : Int → Int) (L : Int) (h : HS) (P : Nat → Int) : Prop := P 0 = 0 ∧ 1 ≤ (eI h 4 3).toInt ∧ (eI h 4 3).toInt ≤ L + 1 ∧ (∀ i : Nat, (i : Int) < (eI h 4 3).toInt → 0 ≤ P i ∧ Tok B L (P i) (eA h 4 0 i).toInt (eA h 4 1 i).toInt (eA h 4 2 i).toInt (P (i + 1)) ∧ ((eA h 4 0 i).toInt = 0 ↔ (i : Int) = (eI h 4 3).toInt - 1))
theorem Tok_q {B : Int → Int} {L p k s v q : Int} (t : Tok B L p k s v q) (h : 0 ≤ p) : 0 ≤ q := by
  obtain ⟨a, b, c, d⟩ := t
  rcases d with d | d | d | d
  · have := d.2.2; have := d.1; omega
  · have := d.2.2.1; omega
  · have := d.2.2.1; omega
  · rcases d.2.2.2.2 with d | d
    · have := d.2.2; omega
    · have := d.2.2; omega
theorem TS_end {B : Int → Int} {L : Int} {h h' : HS} {P : Nat → Int} (t : TS B L h P L) (hL : L ≤ 300) {s : Int32} (hs : s.toInt = L) (e : f_X7_add h 0 s 0 = some h') : ∃ P' : Nat → Int, TE B L h' P' ∧ eI h' 4 4 = eI h 4 4 := by
  obtain ⟨t1, t2, t3, t4, t5, t6, t7, t8⟩ := t
  have z1 : (1 : Int32).toInt = 1 := rfl
  have e' := cx_add e t2 (by omega)
  subst e'
  have a1 := fb_addI (x := eI h 4 3) (y := 1) (by omega) (by omega)
  obtain ⟨c, hc⟩ := Int.eq_ofNat_of_zero_le t2
  have hc' : (eI h 4 3).toInt.toNat = c := by omega
  rw [hc'] at t6 t7 t8 ⊢
  have hnn : ∀ i : Nat, i ≤ c → 0 ≤ P i := by
    intro i
    induction i with
    | zero => intro _; omega
    | succ i ih => intro hi; exact Tok_q (t5 i (by omega)).2 (ih (by omega))
  refine ⟨fun i => if i = c + 1 then L else P i, ⟨(if_neg (by omega)).trans t1, ?_, ?_, ?_⟩, rfl⟩
  · show 1 ≤ (eI h 4 3 + 1).toInt; omega
  · show (eI h 4 3 + 1).toInt ≤ L + 1; omega
  · intro i hi
    have hi : (i : Int) < (eI h 4 3 + 1).toInt := hi
    show 0 ≤ (if i = c + 1 then L else P i) ∧ Tok B L (if i = c + 1 then L else P i) (upd (eA h 4 0) c 0 i).toInt (upd (eA h 4 1) c s i).toInt (upd (eA h 4 2) c 0 i).toInt (if i + 1 = c + 1 then L else P (i + 1)) ∧ ((upd (eA h 4 0) c 0 i).toInt = 0 ↔ (i : Int) = (eI h 4 3 + 1).toInt - 1)
    unfold upd
    by_cases ci : i = c
    · rw [if_pos ci, if_pos ci, if_pos ci, if_neg (by omega), if_pos (by omega), ci]
      exact ⟨t7, ⟨by omega, by omega, by rw [hs]; exact t8, Or.inl ⟨hs, rfl, rfl⟩⟩, ⟨fun _ => by omega, fun _ => rfl⟩⟩
    · rw [if_neg ci, if_neg ci, if_neg ci, if_neg (by omega), if_neg (by omega)]
      have q := t5 i (by omega)
      exact ⟨hnn i (by omega), q.2, ⟨fun y => absurd y q.1, fun y => by omega⟩⟩
theorem cx_splitSign {h : HS} {x : Int32} {z : Int32 × HS} {P : Nat → Int} (e : f_X7_splitSign h x = some z) (hL : cL h ≤ 300) (t : TS (cB h) (cL h) h P x.toInt) (h0 : 0 ≤ x.toInt) (h1 : x.toInt < cL h) (n1 : ¬ isBl (cB h x.toInt)) (n2 : ¬ isAl (cB h x.toInt)) (n3 : ¬ isNu (cB h x.toInt)) : ∃ P' : Nat → Int, TS (cB h) (cL h) z.2 P' z.1.toInt ∧ x.toInt < z.1.toInt := by
  have z1 : (1 : Int32).toInt = 1 := rfl
  have z2 : (2 : Int32).toInt = 2 := rfl
  have z3 : (3 : Int32).toInt = 3 := rfl
  have z4 : (4 : Int32).toInt = 4 := rfl
  have z5 : (5 : Int32).toInt = 5 := rfl
  have z6 : (6 : Int32).toInt = 6 := rfl
  have z61 : (61 : Int32).toInt = 61 := rfl
  have a1 := fb_addI (x := x) (y := 1) (by omega) (by omega)
  have a2 := fb_addI (x := x) (y := 2) (by omega) (by omega)
  unfold f_X7_splitSign at e
  obtain ⟨r1, h1', e1, e⟩ := ob2_some e
  obtain ⟨g1, g2⟩ := cx_byteAt e1 hL
  obtain rfl : h = h1' := g1.symm
  rcases g2 with ⟨-, -, g2⟩ | ⟨g2, -⟩
  · have g2 : r1.toInt = cB h x.toInt := g2
    obtain ⟨r2, e2, e⟩ := ob1_some e
    have k2 := cx_signKind e2
    rw [g2] at k2
    have kr := skind_rng (cB h x.toInt)
    have short : ¬ TokL (cB h) (cL h) x.toInt → f_X7_splitSign_35 h x r2 = some z → ∃ P' : Nat → Int, TS (cB h) (cL h) z.2 P' z.1.toInt ∧ x.toInt < z.1.toInt := by
      intro hn e
      unfold f_X7_splitSign_35 f_X7_splitSign_36 at e
      rw [if_pos rfl] at e
      unfold f_X7_splitSign_55 f_X7_splitSign_76 at e
      obtain ⟨h9, e9, e⟩ := ob1_some e
      rw [if_pos rfl] at e
      cases e
      obtain ⟨P', k⟩ := TS_add (q := x.toInt + 1) t hL e9 rfl h1 (by omega) (by omega) (by omega) (Or.inr (Or.inr (Or.inr ⟨h1, n1, n2, n3, Or.inr ⟨hn, k2, rfl⟩⟩)))
      exact ⟨P', by show TS _ _ h9 P' (x + 1).toInt; rw [show (x + 1).toInt = x.toInt + 1 by omega]; exact k, by show x.toInt < (x + 1).toInt; omega⟩
    have long : (r2 = 3 ∨ r2 = 5) → f_X7_splitSign_19 h x r2 = some z → ∃ P' : Nat → Int, TS (cB h) (cL h) z.2 P' z.1.toInt ∧ x.toInt < z.1.toInt := by
      intro hr e
      have hr' : skind (cB h x.toInt) = 3 ∨ skind (cB h x.toInt) = 5 := by
        rcases hr with hr | hr
        · left; rw [← k2, hr]; rfl
        · right; rw [← k2, hr]; rfl
      unfold f_X7_splitSign_19 at e
      obtain ⟨r5, h5, e5, e⟩ := ob2_some e
      obtain ⟨g3, g4⟩ := cx_byteAt e5 hL
      obtain rfl : h = h5 := g3.symm
      by_cases c : r5 = 61
      · rw [if_pos c] at e
        have d := gi_of_eq c
        rcases g4 with ⟨-, q2, g4⟩ | ⟨-, g4⟩
        · have g4 : r5.toInt = cB h (x + 1).toInt := g4
          rw [show (x + 1).toInt = x.toInt + 1 by omega] at g4 q2
          have hl : TokL (cB h) (cL h) x.toInt := ⟨hr', q2, by omega⟩
          unfold f_X7_splitSign_36 at e
          rw [if_neg (by decide)] at e
          have fin : ∀ (w : Int32), w.toInt = skind (cB h x.toInt) + 1 → f_X7_splitSign_54 h x 1 w = some z → ∃ P' : Nat → Int, TS (cB h) (cL h) z.2 P' z.1.toInt ∧ x.toInt < z.1.toInt := by
            intro w hw e
            unfold f_X7_splitSign_54 f_X7_splitSign_55 f_X7_splitSign_76 at e
            obtain ⟨h9, e9, e⟩ := ob1_some e
            rw [if_neg (by decide)] at e
            cases e
            obtain ⟨P', k⟩ := TS_add (q := x.toInt + 2) t hL e9 rfl h1 (by omega) (by omega) (by omega) (Or.inr (Or.inr (Or.inr ⟨h1, n1, n2, n3, Or.inl ⟨hl, hw, rfl⟩⟩)))
            exact ⟨P', by show TS _ _ h9 P' (x + 2).toInt; rw [show (x + 2).toInt = x.toInt + 2 by omega]; exact k, by show x.toInt < (x + 2).toInt; omega⟩
          by_cases c3 : r2 = 3
          · rw [if_pos c3] at e
            exact fin 4 (by rw [← k2, c3]; rfl) e
          · rw [if_neg c3] at e
            have c5 : r2 = 5 := by
              rcases hr with hr | hr
              · exact absurd hr c3
              · exact hr
            exact fin 6 (by rw [← k2, c5]; rfl) e
        · have g4 : r5 = 0 := g4
          rw [g4] at c
          exact absurd c (by decide)
      · rw [if_neg c] at e
        refine short (fun hl => ?_) e
        obtain ⟨-, q2, q3⟩ := hl
        rcases g4 with ⟨-, -, g4⟩ | ⟨g4, -⟩
        · have g4 : r5.toInt = cB h (x + 1).toInt := g4
          rw [show (x + 1).toInt = x.toInt + 1 by omega, q3] at g4
          exact c (gi_eq (by omega))
        · exact g4 ⟨by omega, by omega⟩
    by_cases c3 : r2 = 3
    · rw [if_pos c3] at e
      exact long (Or.inl c3) e
    · rw [if_neg c3] at e
      by_cases c5 : r2 = 5
      · rw [if_pos c5] at e
        exact long (Or.inr c5) e
      · rw [if_neg c5] at e
        refine short (fun hl => ?_) e
        have d3 := gi_of_ne c3
        have d5 := gi_of_ne c5
        rcases hl.1 with q | q
        · omega
        · omega
  · exact absurd ⟨h0, h1⟩ g2
theorem cx_splitWord {h : HS} {x : Int32} {z : Int32 × HS} {P : Nat → Int} (e : f_X7_splitWord h x = some z) (hL : cL h ≤ 300) (t : TS (cB h) (cL h) h P x.toInt) (h0 : 0 ≤ x.toInt) (h1 : x.toInt < cL h) (n2 : isAl (cB h x.toInt)) : ∃ P' : Nat → Int, TS (cB h) (cL h) z.2 P' z.1.toInt ∧ x.toInt < z.1.toInt := by
  unfold f_X7_splitWord at e
  obtain ⟨y, k1, k2, k3, k4, k5⟩ := cx_swl hL _ x z e h0 (by omega)
  have hxy : x.toInt < y.toInt := by
    rcases Int.lt_or_eq_of_le k1 with q | q
    · exact q
    · exfalso
      rcases k4 with k4 | k4
      · omega
      · rw [← q] at k4; exact k4 n2
  unfold f_X7_splitWord_27 at k5
  obtain ⟨r5, h5, e5, k5⟩ := ob2_some k5
  have s1 := fb_subI (x := y) (y := x) (by omega) (by omega)
  obtain ⟨g1, g2⟩ := cx_wordKind e5 h0 (by omega) (by omega) hL
  obtain rfl : h = h5 := g1.symm
  have g2 : r5.toInt = wkind (seg (cB h) x.toInt (y - x).toInt.toNat) := g2
  rw [show (y - x).toInt = y.toInt - x.toInt by omega] at g2
  have kr := wkind_rng (seg (cB h) x.toInt (y.toInt - x.toInt).toNat)
  obtain ⟨h6, e6, k5⟩ := ob1_some k5
  cases k5
  obtain ⟨P', k⟩ := TS_add (q := y.toInt) t hL e6 rfl h1 (by omega) hxy k2 (Or.inr (Or.inl ⟨h1, n2, hxy, k2, k3, k4, g2⟩))
  exact ⟨P', k, hxy⟩
theorem cx_splitNumber {h : HS} {x : Int32} {z : Int32 × HS} {P : Nat → Int} (e : f_X7_splitNumber h x = some z) (hL : cL h ≤ 300) (t : TS (cB h) (cL h) h P x.toInt) (h0 : 0 ≤ x.toInt) (h1 : x.toInt < cL h) (n2 : isNu (cB h x.toInt)) : ∃ P' : Nat → Int, TS (cB h) (cL h) z.2 P' z.1.toInt ∧ x.toInt < z.1.toInt := by
  unfold f_X7_splitNumber at e
  obtain ⟨y, v, k1, k2, k3, k4, k5, k6⟩ := cx_snl hL _ x 0 z e h0 (by omega) (by decide) (by decide)
  have hxy : x.toInt < y.toInt := by
    rcases Int.lt_or_eq_of_le k1 with q | q
    · exact q
    · exfalso
      rcases k4 with k4 | k4
      · omega
      · rw [← q] at k4; exact k4 n2
  unfold f_X7_splitNumber_52 at k6
  obtain ⟨h6, e6, k6⟩ := ob1_some k6
  cases k6
  obtain ⟨P', k⟩ := TS_add (q := y.toInt) t hL e6 rfl h1 (by decide) hxy k2 (Or.inr (Or.inr (Or.inl ⟨h1, n2, hxy, k2, k3, k4, rfl, k5⟩)))
  exact ⟨P', k, hxy⟩
theorem cx_spl {B : Int → Int} {L : Int} (hL : L ≤ 300) : ∀ (n : Nat) (h h' : HS) (x2 x3 : Int32) (P : Nat → Int), f_X7_split_14 n h x2 x3 = some h' → cB h = B → cL h = L → 0 ≤ x3.toInt → x3.toInt ≤ x2.toInt → TS B L h P x2.toInt → ∃ P' : Nat → Int, TE B L h' P' ∧ eI h' 4 4 = eI h 4 4 := by
  have z1 : (1 : Int32).toInt = 1 := rfl
  have z300 : (300 : Int32).toInt = 300 := rfl
  intro n
  induction n with
  | zero => intro h h' x2 x3 P e; cases e
  | succ n ih =>
    intro h h' x2 x3 P e hB hLL h0 h1 t
    have tL := t.2.2.2.1
    rw [f_X7_split_14_s] at e
    have fin : x2.toInt = L → f_X7_split_99 h = some h' → ∃ P' : Nat → Int, TE B L h' P' ∧ eI h' 4 4 = eI h 4 4 := by
      intro q e
      unfold f_X7_split_99 at e
      obtain ⟨h13, e13, e⟩ := ob1_some e
      cases e
      rw [q] at t
      exact TS_end t hL hLL e13
    by_cases c1 : (300 : Int32) ≤ x3
    · rw [if_pos c1] at e
      have := gi_of_le c1
      exact fin (by omega) e
    · rw [if_neg c1] at e
      have d1 := gi_of_nle c1
      by_cases c2 : eI h 3 1 ≤ x2
      · rw [if_pos c2] at e
        have : cL h ≤ x2.toInt := gi_of_le c2
        exact fin (by omega) e
      · rw [if_neg c2] at e
        have d2 : x2.toInt < cL h := gi_of_nle c2
        have a2 := fb_addI (x := x2) (y := 1) (by omega) (by omega)
        have a3 := fb_addI (x := x3) (y := 1) (by omega) (by omega)
        obtain ⟨r3, h3, e3, e⟩ := ob2_some e
        obtain ⟨g1, g2⟩ := cx_byteAt e3 (by omega)
        obtain rfl : h = h3 := g1.symm
        rcases g2 with ⟨-, -, g2⟩ | ⟨g2, -⟩
        · have g2 : r3.toInt = cB h x2.toInt := g2
          have on : ∀ (z : Int32 × HS) (P : Nat → Int), Fr [(1, 4, 0), (1, 4, 1), (1, 4, 2), (0, 4, 3)] h z.2 → TS (cB h) (cL h) z.2 P z.1.toInt → x2.toInt < z.1.toInt → f_X7_split_93 (f_X7_split_14 n) z.2 z.1 x3 = some h' → ∃ P' : Nat → Int, TE B L h' P' ∧ eI h' 4 4 = eI h 4 4 := by
            intro z P f t q e
            unfold f_X7_split_93 at e
            have f1 : eA z.2 3 0 = eA h 3 0 := f.2.1 3 0 (by decide)
            have f2 : eI z.2 3 1 = eI h 3 1 := f.1 3 1 (by decide)
            have f3 : eI z.2 4 4 = eI h 4 4 := f.1 4 4 (by decide)
            obtain ⟨P', k1, k2⟩ := ih z.2 h' z.1 (x3 + 1) P e (by rw [← hB]; unfold cB; rw [f1]) (by rw [← hLL]; unfold cL; rw [f2]) (by omega) (by omega) (by rw [← hB, ← hLL]; exact t)
            exact ⟨P', k1, k2.trans f3⟩
          obtain ⟨r4, e4, e⟩ := ob1_some e
          have t' : TS (cB h) (cL h) h P x2.toInt := by rw [hB, hLL]; exact t
          rcases cx_isBlank e4 with ⟨rfl, q4⟩ | ⟨rfl, q4⟩
          · rw [if_pos rfl] at e
            rw [g2] at q4
            obtain ⟨r6, e6, e⟩ := ob1_some e
            rcases cx_isAlpha e6 with ⟨rfl, q6⟩ | ⟨rfl, q6⟩
            · rw [if_pos rfl] at e
              rw [g2] at q6
              obtain ⟨r8, e8, e⟩ := ob1_some e
              rcases cx_isNumeral e8 with ⟨rfl, q8⟩ | ⟨rfl, q8⟩
              · rw [if_pos rfl] at e
                rw [g2] at q8
                obtain ⟨r10, h10, e10, e⟩ := ob2_some e
                obtain ⟨P', k1, k2⟩ := cx_splitSign e10 (by omega) t' (by omega) d2 q4 q6 q8
                exact on (r10, h10) P' (Fr_mono (by decide) (w_f_X7_splitSign h x2 _ e10)) k1 k2 e
              · rw [if_neg (by decide)] at e
                rw [g2] at q8
                obtain ⟨r10, h10, e10, e⟩ := ob2_some e
                obtain ⟨P', k1, k2⟩ := cx_splitNumber e10 (by omega) t' (by omega) d2 q8
                exact on (r10, h10) P' (Fr_mono (by decide) (w_f_X7_splitNumber h x2 _ e10)) k1 k2 e
            · rw [if_neg (by decide)] at e
              rw [g2] at q6
              obtain ⟨r10, h10, e10, e⟩ := ob2_some e
              obtain ⟨P', k1, k2⟩ := cx_splitWord e10 (by omega) t' (by omega) d2 q6
              exact on (r10, h10) P' (Fr_mono (by decide) (w_f_X7_splitWord h x2 _ e10)) k1 k2 e
          · rw [if_neg (by decide)] at e
            rw [g2] at q4
            refine on (x2 + 1, h) P (Fr_refl _ _) ?_ (by show x2.toInt < (x2 + 1).toInt; omega) e
            obtain ⟨t1, t2, t3, t4, t5, t6, t7, t8⟩ := t'
            show TS _ _ h P (x2 + 1).toInt
            refine ⟨t1, t2, by omega, by omega, t5, by omega, t7, fun j q1 q2 => ?_⟩
            by_cases c : j = x2.toInt
            · rw [c]; exact q4
            · exact t8 j q1 (by omega)
        · exact absurd ⟨by omega, d2⟩ g2
theorem cx_split {h h' : HS} (e : f_X7_split h = some h') (h0 : 0 ≤ cL h) (hL : cL h ≤ 300) : ∃ P : Nat → Int, TE (cB h) (cL h) h' P ∧ eI h' 4 4 = 0 := by
  unfold f_X7_split at e
  have z0 : (0 : Int32).toInt = 0 := rfl
  exact cx_spl (B := cB h) (L := cL h) hL _ _ h' 0 0 (fun _ => 0) e rfl rfl (by decide) (by decide) ⟨rfl, by show 0 ≤ (0 : Int32).toInt; decide, by show (0 : Int32).toInt ≤ (0 : Int32).toInt; decide, h0, fun i hi => by have hi : (i : Int) < (0 : Int32).toInt := hi; omega, by show (0 : Int) ≤ (0 : Int32).toInt; decide, Int.le_refl _, fun j q1 q2 => by have q1 : (0 : Int) ≤ j := q1; omega⟩
