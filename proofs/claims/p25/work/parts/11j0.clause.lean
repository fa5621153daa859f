/-! text 0: a clause of a law -/
theorem cp_setClause_0 {h h' : HS} {c f v : Int32} (e : f_X6_setClause_0 h c f v = some h') (c0 : 0 ≤ c.toInt) (c1 : c.toInt < 24) (f0 : 0 ≤ f.toInt) (f1 : f.toInt < 4) : h' = sA h 9 0 (upd (eA h 9 0) (4 * c.toInt.toNat + f.toInt.toNat) v) := by
  have z0 : (0 : Int32).toInt = 0 := rfl
  have z24 : (24 : Int32).toInt = 24 := rfl
  have z4 : (4 : Int32).toInt = 4 := rfl
  unfold f_X6_setClause_0 f_X6_setClause_0_30 at e
  rw [if_neg (fun q => by have := gi_of_lt q; omega), if_neg (fun q => by have := gi_of_le q; omega), if_neg (fun q => by have := gi_of_lt q; omega), if_neg (fun q => by have := gi_of_le q; omega)] at e
  obtain ⟨-, e⟩ := ob_if e
  cases e
  have a1 := fb_mulK (x := c) (y := 4) (k := 4) rfl (by omega) (by omega)
  have a2 := fb_addI (x := c * 4) (y := f) (by omega) (by omega)
  have ix : (c * 4 + f).toNatClampNeg = 4 * c.toInt.toNat + f.toInt.toNat := by rw [Int32.toNatClampNeg]; omega
  rw [ix]
theorem cp_hasLaw_0 {h : HS} {w : Int32} {z : Int32 × HS} (e : f_X6_hasLaw_0 h w = some z) (w0 : 0 ≤ w.toInt) : z.2 = h ∧ ((z.1 = 0 ∧ (4 ≤ w.toInt ∨ eA h 9 3 w.toInt.toNat = -1)) ∨ (z.1 = 1 ∧ w.toInt < 4 ∧ ¬ eA h 9 3 w.toInt.toNat = -1)) := by
  have z0 : (0 : Int32).toInt = 0 := rfl
  have z4 : (4 : Int32).toInt = 4 := rfl
  unfold f_X6_hasLaw_0 f_X6_hasLaw_0_23 f_X6_hasLaw_0_24 at e
  rw [if_neg (fun q => by have := gi_of_lt q; omega)] at e
  by_cases c : (4 : Int32) ≤ w
  · rw [if_pos c] at e
    cases e
    exact ⟨rfl, Or.inl ⟨rfl, Or.inl (by have := gi_of_le c; omega)⟩⟩
  · rw [if_neg c] at e
    have d := gi_of_nle c
    obtain ⟨-, e⟩ := ob_if e
    by_cases c2 : eA h 9 3 w.toNatClampNeg = -1
    · rw [if_pos c2] at e
      cases e
      exact ⟨rfl, Or.inl ⟨rfl, Or.inr c2⟩⟩
    · rw [if_neg c2] at e
      cases e
      exact ⟨rfl, Or.inr ⟨rfl, by omega, c2⟩⟩
theorem cp_beginLaw_0 {h h' : HS} {w : Int32} (e : f_X6_beginLaw_0 h w = some h') (w0 : 0 ≤ w.toInt) (w1 : w.toInt < 4) : h' = sA h 9 3 (upd (eA h 9 3) w.toInt.toNat (eI h 9 5)) := by
  have z0 : (0 : Int32).toInt = 0 := rfl
  have z4 : (4 : Int32).toInt = 4 := rfl
  unfold f_X6_beginLaw_0 f_X6_beginLaw_0_19 at e
  rw [if_neg (fun q => by have := gi_of_lt q; omega), if_neg (fun q => by have := gi_of_le q; omega)] at e
  obtain ⟨-, e⟩ := ob_if e
  cases e; rfl
theorem cp_closeLaw_0 {h h' : HS} {w : Int32} (e : f_X6_closeLaw_0 h w = some h') (w0 : 0 ≤ w.toInt) (w1 : w.toInt < 4) : h' = sA h 9 4 (upd (eA h 9 4) w.toInt.toNat (eI h 9 5)) := by
  have z0 : (0 : Int32).toInt = 0 := rfl
  have z4 : (4 : Int32).toInt = 4 := rfl
  unfold f_X6_closeLaw_0 f_X6_closeLaw_0_19 at e
  rw [if_neg (fun q => by have := gi_of_lt q; omega), if_neg (fun q => by have := gi_of_le q; omega)] at e
  obtain ⟨-, e⟩ := ob_if e
  cases e; rfl
def NXT_0 (B : Int → Int) (L : Int) (P : Nat → Int) (r : Int32 × HS) (h h' g : HS) : Prop := ∃ (N : Nat) (g' : HS), f_X9_text_74 N g' = some r ∧ BEG B L P 9 h' g' ∧ (eI h' 9 1).toInt = (eI h 9 1).toInt + 1 ∧ Fr SPC g g'
/-- the law is read: what closes it -/
theorem lawend_0 {B : Int → Int} {L : Int} {P : Nat → Int} {d : Nat} {h h' g g1 h17 g2 : HS} {h11 : HS} {ps : List Int} {r : Int32 × HS} {w x1 : Int32} (bg : BEG B L P 9 h g) (hw : 0 ≤ w.toInt ∧ w.toInt < 4) (no : eA h 9 3 w.toInt.toNat = -1) (cc : (eI h 9 1).toInt < 24) (hd : (d : Int) = (eI h 9 1).toInt)
    (q0 : eA h11 9 0 = upd (eA h 9 0) (4 * d) x1) (hx1 : x1.toInt = 16 + w.toInt) (q3 : eA h11 9 3 = upd (eA h 9 3) w.toInt.toNat (eI h 9 5)) (q4 : eA h11 9 4 = eA h 9 4) (q5 : eI h11 9 5 = eI h 9 5) (q2 : eA h11 9 2 = eA h 9 2) (q1 : eI h11 9 1 = eI h 9 1) (qa : at_ h11 = at_ h + 1) (q52 : eI h11 5 2 = w)
    (m31 : eA g1 0 31 = upd (eA g 0 31) d w) (m32 : eA g1 0 32 = upd (eA g 0 32) d (eI g 0 36)) (m33 : eA g1 0 33 = upd (eA g 0 33) d (-1)) (m34 : eA g1 0 34 = upd (eA g 0 34) d (-1)) (m35 : eA g1 0 35 = upd (eA g 0 35) d (-1)) (m36 : eI g1 0 36 = eI g 0 36) (m37 : eA g1 0 37 = eA g 0 37) (m38 : eA g1 0 38 = eA g 0 38) (m29 : eI g1 0 29 = eI g 0 29) (m21 : (eI g1 0 21).toInt = 0) (m25 : (eI g1 0 25).toInt = 0) (m20 : eI g1 0 20 = -1) (q51 : eI h11 5 1 = -1) (fg1 : Fr SPC g g1)
    (R : RES B L P 9 d h11 g1 h17 g2 ps) (fh : Fr S_read_0 h11 h17) (rks : ∀ p ∈ ps, (1 : Int32).toInt ≤ rnk p) (fin : (kd h17 = 15 ∧ ∃ (N3 : Nat) (g3 : HS), f_X9_clauseIsOver g2 = some g3 ∧ f_X9_text_74 N3 g3 = some r) ∨ (¬ kd h17 = 15 ∧ ∃ (N3 : Nat) (g3 : HS), f_X9_errs g2 1 = some g3 ∧ f_X9_text_74 N3 g3 = some r))
    {h18 : HS} (e18 : f_X6_closeLaw_0 h17 (eI h17 5 2) = some h18) (e : f_X2_readClause_0_141 h18 = some h') : BADC r h' g ∨ NXT_0 B L P r h h' g := by
  have z1 : (1 : Int32).toInt = 1 := rfl
  have z15 : (15 : Int32).toInt = 15 := rfl
  have z408 : (408 : Int32).toInt = 408 := rfl
  obtain ⟨x1', x2, x3, ⟨x4, x5, x6, x6'⟩, ⟨x7, x8, x8'⟩, x9, x10, x11⟩ := id R
  obtain ⟨bt, bf, bw, b21, b22, b25, b28, bpl, tx1, ⟨tx2, tx3⟩, tx4, tx5, tx6, tx7, tx8⟩ := id bg
  have h52 : eI h17 5 2 = w := (fh.1 5 2 (by decide)).trans q52
  rw [h52] at e18
  have eh18 := cp_closeLaw_0 e18 hw.1 hw.2
  have f18 : Fr [(1, 9, 4)] h17 h18 := by rw [eh18]; exact Fr_sA (by decide) (Fr_refl _ _)
  have t18 := TT_h x1' f18 (by decide) (by decide) (by decide) (by decide) (by decide)
  have k18 : kd h18 = kd h17 := by rw [eh18]; rfl
  have a18 : at_ h18 = at_ h17 := by rw [eh18]; rfl
  have p18 : eI h18 5 0 = 0 := (f18.1 5 0 (by decide)).trans x2
  unfold f_X2_readClause_0_141 f_X2_readClause_0_158 at e
  obtain ⟨h16, e16, e⟩ := ob1_some e
  have eh' : h' = sI h16 9 1 (eI h16 9 1 + 1) := (Option.some.inj e).symm
  have f' : Fr [(0, 9, 1)] h16 h' := by rw [eh']; exact Fr_sI (by decide) (Fr_refl _ _)
  unfold f_X2_expect f_X2_expect_29 at e16
  rw [if_pos p18] at e16
  obtain ⟨rr, hh, e16a, e16⟩ := ob2_some e16
  obtain ⟨u1, u2⟩ := TT_kind t18 e16a
  obtain rfl : h18 = hh := u1.symm
  replace u2 : rr.toInt = kd h18 := u2
  rcases fin with ⟨k15, N3, g3, b3, et3⟩ | ⟨k15, N3, g3, b3, et3⟩
  · rw [if_pos (gi_eq (by omega))] at e16
    obtain ⟨h5, e5, e16⟩ := ob1_some e16
    obtain rfl : h5 = h16 := Option.some.inj e16
    obtain ⟨ga, gb, gc, ba, bb, bc, eg3⟩ := mp_over b3
    subst eg3
    unfold f_X9_works at ba
    obtain ⟨n1, cca, n5⟩ := RES_flush R (by omega) rks (Or.inl (by omega)) ba
    obtain ⟨⟨v1, v2⟩, egb⟩ := mp_emits bb
    replace v1 : 0 ≤ (eI ga 0 36).toInt := v1
    replace v2 : (eI ga 0 36).toInt < 400 := v2
    replace egb : gb = sI (sA (sA (sI ga 0 22 0) 0 37 (upd (eA ga 0 37) (eI ga 0 36).toInt.toNat 408)) 0 38 (upd (eA ga 0 38) (eI ga 0 36).toInt.toNat 0)) 0 36 (eI ga 0 36 + 1) := egb
    have fB : Fr [(0, 0, 25), (0, 0, 36), (1, 0, 37), (1, 0, 38), (0, 0, 22), (0, 0, 29)] g2 (sI gb 0 29 (eI gb 0 29 + 1)) := by
      rw [egb]
      exact Fr_sI (by decide) (Fr_sI (by decide) (Fr_sA (by decide) (Fr_sA (by decide) (Fr_sI (by decide) (Fr_mono (by decide) n5)))))
    obtain ⟨t5, eh5, ea5⟩ := TT_adv t18 (by omega) e5 fB (by decide) (by decide) (by decide) bc
    have fn := w_f_X9_next _ _ bc
    have f5 : Fr [(0, 4, 4)] h18 h5 := by rw [eh5]; exact Fr_sI (by decide) (Fr_refl _ _)
    have fC : Fr [(0, 0, 28)] gc (sI gc 0 28 4) := Fr_sI (by decide) (Fr_refl _ _)
    have hb29 : eI gb 0 29 = eI g 0 29 := by
      rw [egb]
      show eI ga 0 29 = _
      rw [n5.1 0 29 (by decide), x11.1.1 0 29 (by decide), m29]
    have G29 : eI (sI gc 0 28 4) 0 29 = eI g 0 29 + 1 := by
      rw [fC.1 0 29 (by decide), fn.1 0 29 (by decide)]
      show eI gb 0 29 + 1 = _
      rw [hb29]
    have G36 : eI (sI gc 0 28 4) 0 36 = eI ga 0 36 + 1 := by
      rw [fC.1 0 36 (by decide), fn.1 0 36 (by decide), egb]; rfl
    have G37 : eA (sI gc 0 28 4) 0 37 = upd (eA ga 0 37) (eI ga 0 36).toInt.toNat 408 := by
      rw [fC.2.1 0 37 (by decide), fn.2.1 0 37 (by decide), egb]; rfl
    have G38 : eA (sI gc 0 28 4) 0 38 = upd (eA ga 0 38) (eI ga 0 36).toInt.toNat 0 := by
      rw [fC.2.1 0 38 (by decide), fn.2.1 0 38 (by decide), egb]; rfl
    have gkeep : ∀ k : Nat, (1, 0, k) ∉ SPE → eA (sI gc 0 28 4) 0 k = eA g1 0 k := by
      intro k hk
      have hk1 : (1, 0, k) ∉ ([(0, 0, 28)] : CL) := by intro q; simp at q
      have hk2 : (1, 0, k) ∉ S_X9_next := by intro q; simp [S_X9_next] at q
      have hk3 : (1, 0, k) ∉ ([(0, 0, 25), (0, 0, 36), (1, 0, 37), (1, 0, 38), (0, 0, 22), (0, 0, 29)] : CL) := by
        intro q
        apply hk
        simp at q
        rcases q with q | q
        · subst q; decide
        · subst q; decide
      rw [fC.2.1 0 k hk1, fn.2.1 0 k hk2, fB.2.1 0 k hk3, x11.1.2.1 0 k (fun q => hk ((by decide : ∀ x ∈ SPR, x ∈ SPE) _ q))]
    have H1 : eI h' 9 1 = eI h 9 1 + 1 := by
      rw [eh']
      show eI h5 9 1 + 1 = _
      rw [f5.1 9 1 (by decide), f18.1 9 1 (by decide), fh.1 9 1 (by decide), q1]
    have H5 : eI h' 9 5 = eI h17 9 5 := by
      rw [f'.1 9 5 (by decide), f5.1 9 5 (by decide), f18.1 9 5 (by decide)]
    have H0 : eA h' 9 0 = upd (eA h 9 0) (4 * d) x1 := by
      rw [f'.2.1 9 0 (by decide), f5.2.1 9 0 (by decide), f18.2.1 9 0 (by decide), fh.2.1 9 0 (by decide), q0]
    have H2 : eA h' 9 2 = eA h17 9 2 := by
      rw [f'.2.1 9 2 (by decide), f5.2.1 9 2 (by decide), f18.2.1 9 2 (by decide)]
    have H3 : eA h' 9 3 = upd (eA h 9 3) w.toInt.toNat (eI h 9 5) := by
      rw [f'.2.1 9 3 (by decide), f5.2.1 9 3 (by decide), f18.2.1 9 3 (by decide), fh.2.1 9 3 (by decide), q3]
    have H4 : eA h' 9 4 = upd (eA h 9 4) w.toInt.toNat (eI h17 9 5) := by
      rw [f'.2.1 9 4 (by decide), f5.2.1 9 4 (by decide), eh18]
      show upd (eA h17 9 4) w.toInt.toNat (eI h17 9 5) = _
      rw [fh.2.1 9 4 (by decide), q4]
    have Ha : at_ h' = at_ h17 + 1 := by
      rw [← a18, ← ea5, eh']; rfl
    obtain ⟨c0, c1, c2, c3, c4, c5, c6, c7⟩ := cca
    have l0 : (([] : List Int).length : Int) = 0 := rfl
    rw [q5] at c0 c1 c2 c4 c6 x10
    rw [q2] at c4
    rw [m36] at c1 c5
    have z1a := fb_addI (x := eI h 9 1) (y := 1) (by omega) (by omega)
    have z2a := fb_addI (x := eI g 0 29) (y := 1) (by omega) (by omega)
    have z3a := fb_addI (x := eI ga 0 36) (y := 1) (by omega) (by omega)
    have T5 : TT B L P h' (sI gc 0 28 4) := TT_h (TT_g t5 fC (by decide) (by decide) (by decide) (by decide) (by decide) (by decide)) f' (by decide) (by decide) (by decide) (by decide) (by decide)
    have tat := TT_at t18
    refine Or.inr ⟨N3, _, et3, ⟨T5, ?_, ?_, ?_, ?_, ?_, rfl, ⟨by rw [f'.1 5 1 (by decide), f5.1 5 1 (by decide), f18.1 5 1 (by decide), x11.2]; exact q51, by rw [fC.1 0 20 (by decide), fn.1 0 20 (by decide), fB.1 0 20 (by decide), x11.1.1 0 20 (by decide)]; exact m20⟩, ?_, ⟨?_, ?_⟩, ?_, ?_, ?_, ?_, ?_⟩, by rw [H1]; omega, Fr_trans fg1 (Fr_trans (Fr_mono (by decide) x11.1) (Fr_trans (Fr_mono (by decide) fB) (Fr_trans (Fr_mono (by decide) fn) (Fr_mono (by decide) fC))))⟩
    · rw [f'.1 5 0 (by decide), f5.1 5 0 (by decide)]; exact p18
    · rw [fC.1 0 19 (by decide), fn.1 0 19 (by decide), fB.1 0 19 (by decide)]; exact x3
    · rw [fC.1 0 21 (by decide), fn.1 0 21 (by decide), fB.1 0 21 (by decide), x5]; exact m21
    · rw [fC.1 0 22 (by decide), fn.1 0 22 (by decide), egb]; rfl
    · rw [fC.1 0 25 (by decide), fn.1 0 25 (by decide), egb]
      show (eI ga 0 25).toInt = 0
      omega
    · rw [H1, G29]; omega
    · rw [H1]; omega
    · rw [H1]; omega
    · rw [H5]; omega
    · rw [G36, H5, H1]; omega
    · rw [H5, Ha]; omega
    · intro c hc
      rw [H1] at hc
      by_cases cd : c = d
      · subst cd
        have W : (eA (sI gc 0 28 4) 0 31 c).toInt = w.toInt := by
          rw [gkeep 31 (by decide), m31]
          unfold upd
          rw [if_pos rfl]
        have F3 : eA h' 9 3 w.toInt.toNat = eI h 9 5 := by
          rw [H3]; unfold upd; rw [if_pos rfl]
        have F4 : eA h' 9 4 w.toInt.toNat = eI h17 9 5 := by
          rw [H4]; unfold upd; rw [if_pos rfl]
        refine ⟨by omega, by omega, ?_, fun _ => ?_, fun q => by omega⟩
        · rw [W, H0]
          unfold upd
          rw [if_pos rfl]
          exact hx1
        · rw [W]
          unfold LWR
          rw [F3, F4, H5]
          refine ⟨tx4, by omega, by omega, ?_, fun i i1 i2 => ?_, ?_⟩
          · rw [gkeep 32 (by decide), m32]
            unfold upd
            rw [if_pos rfl]
            omega
          · rw [H2, G37, G38]
            unfold upd
            rw [if_neg (by omega), if_neg (by omega)]
            exact c6 i i1 (by omega)
          · rw [G37]
            unfold upd
            rw [if_pos (by omega)]
            rfl
      · have hc2 : (c : Int) < (eI h 9 1).toInt := by omega
        have nw := tx8 w.toInt.toNat (by omega)
        have nw2 : ∀ c : Nat, (c : Int) < (eI h 9 1).toInt → ¬ (eA g 0 31 c).toInt = w.toInt := by
          rcases nw with q | q
          · intro c hc e
            exact q.2 c hc (by omega)
          · exact absurd no q.1
        refine CLR_keep (n := (eI h 9 1).toInt) (s := (eI h 9 5).toInt) (r := (eI g 0 36).toInt) (tx7 c hc2) hc2 (fun i hi => ?_) (fun i hi => ?_) (fun v v4 hv => ?_) rfl (by rw [H5]; omega) (by omega) ?_ ?_ ?_ ?_ ?_ (fun i hi => ?_)
        · rw [H0]; unfold upd; rw [if_neg (by omega)]
        · rw [H2]; exact c4 i hi
        · have ne : ¬ v = w.toInt.toNat := fun q => nw2 c hc2 (by omega)
          rw [H3, H4]
          unfold upd
          rw [if_neg ne, if_neg ne]
          exact ⟨rfl, rfl⟩
        · rw [gkeep 31 (by decide), m31]; unfold upd; rw [if_neg cd]
        · rw [gkeep 32 (by decide), m32]; unfold upd; rw [if_neg cd]
        · rw [gkeep 33 (by decide), m33]; unfold upd; rw [if_neg cd]
        · rw [gkeep 34 (by decide), m34]; unfold upd; rw [if_neg cd]
        · rw [gkeep 35 (by decide), m35]; unfold upd; rw [if_neg cd]
        · rw [G37, G38]
          unfold upd
          rw [if_neg (by omega), if_neg (by omega)]
          have := c5 i hi
          rw [m37, m38] at this
          exact this
    · intro v v4
      rw [H3, H1]
      unfold upd
      by_cases cv : v = w.toInt.toNat
      · rw [if_pos cv]
        refine Or.inr ⟨fun q => ?_, d, by omega, ?_⟩
        · have := gi_of_eq q
          have m : (-1 : Int32).toInt = -1 := rfl
          omega
        · rw [gkeep 31 (by decide), m31]
          unfold upd
          rw [if_pos rfl]
          omega
      · rw [if_neg cv]
        rcases tx8 v v4 with ⟨y1, y2⟩ | ⟨y1, c, y2, y3⟩
        · refine Or.inl ⟨y1, fun c hc => ?_⟩
          rw [gkeep 31 (by decide), m31]
          unfold upd
          by_cases cd : c = d
          · rw [if_pos cd]; omega
          · rw [if_neg cd]; exact y2 c (by omega)
        · refine Or.inr ⟨y1, c, by omega, ?_⟩
          rw [gkeep 31 (by decide), m31]
          unfold upd
          rw [if_neg (by omega)]
          exact y3
  · rw [if_neg (fun q => by have := gi_of_eq q; omega)] at e16
    obtain ⟨h4, e4, e16⟩ := ob1_some e16
    cases e16
    exact Or.inl (BADC_fr (BADC_of (bad_here t18 p18 x3 e4 b3 (by decide) et3) (Fr_trans fg1 (Fr_mono (by decide) x11.1))) f' (by decide) (by decide))
theorem law_0 {B : Int → Int} {L : Int} {P : Nat → Int} {h h' h7 h8 h11 g g1 : HS} {N : Nat} {r : Int32 × HS} {r1 : Int32} (bg : BEG B L P 9 h g) (hr1 : r1.toInt = kd h) (k0 : 16 ≤ kd h) (k1 : kd h ≤ 19) (no : eA h 9 3 (kd h - 16).toNat = -1) (cc : (eI h 9 1).toInt < 24) (e7 : f_X6_setClause_0 (sI h 5 2 (r1 - 16)) (eI h 9 1) 0 r1 = some h7) (e8 : f_X7_advance h7 = some h8) (e11 : f_X6_beginLaw_0 h8 (eI h8 5 2) = some h11) (e : (if eI h11 5 2 = 3 then f_X2_readClause_0_119 h11 0 else f_X2_readClause_0_119 h11 3) = some h') (b : f_X9_clause_73 (sI g 0 30 (eI g 0 18)) = some g1) (et : f_X9_text_74 N g1 = some r) : BADC r h' g ∨ NXT_0 B L P r h h' g := by
  have z0 : (0 : Int32).toInt = 0 := rfl
  have z1 : (1 : Int32).toInt = 1 := rfl
  have z2 : (2 : Int32).toInt = 2 := rfl
  have z3 : (3 : Int32).toInt = 3 := rfl
  have z16 : (16 : Int32).toInt = 16 := rfl
  obtain ⟨bt, bf, bw, b21, b22, b25, b28, bpl, tx1, ⟨tx2, tx3⟩, tx4, tx5, tx6, tx7, tx8⟩ := id bg
  have hw := fb_subI (x := r1) (y := 16) (by omega) (by omega)
  have eh7 := cp_setClause_0 e7 tx2 (by omega) (by decide) (by decide)
  have f7 : Fr [(0, 5, 2), (1, 9, 0)] h h7 := by rw [eh7]; exact Fr_sA (by decide) (Fr_sI (by decide) (Fr_refl _ _))
  have t7 := TT_h bt f7 (by decide) (by decide) (by decide) (by decide) (by decide)
  have kd7 : kd h7 = kd h := by rw [eh7]; rfl
  have at7 : at_ h7 = at_ h := by rw [eh7]; rfl
  unfold f_X9_clause_73 at b
  rw [if_pos (show eI (sI g 0 30 (eI g 0 18)) 0 19 ≤ 0 by show eI g 0 19 ≤ 0; rw [bw]; decide)] at b
  obtain ⟨-, b⟩ := ob_if b
  obtain ⟨-, b⟩ := ob_if b
  obtain ⟨-, b⟩ := ob_if b
  obtain ⟨-, b⟩ := ob_if b
  obtain ⟨-, b⟩ := ob_if b
  obtain ⟨g16, b16, b⟩ := ob1_some b
  have f15 : Fr [(0, 0, 30), (1, 0, 31), (1, 0, 32), (1, 0, 33), (1, 0, 34), (1, 0, 35)] g _ := Fr_sA (v := upd (eA (sI g 0 30 (eI g 0 18)) 0 35) ((eI (sI g 0 30 (eI g 0 18)) 0 29).toNatClampNeg) (-1)) (o := 0) (k := 35) (by decide) (Fr_sA (v := upd (eA (sI g 0 30 (eI g 0 18)) 0 34) ((eI (sI g 0 30 (eI g 0 18)) 0 29).toNatClampNeg) (-1)) (o := 0) (k := 34) (by decide) (Fr_sA (v := upd (eA (sI g 0 30 (eI g 0 18)) 0 33) ((eI (sI g 0 30 (eI g 0 18)) 0 29).toNatClampNeg) (-1)) (o := 0) (k := 33) (by decide) (Fr_sA (v := upd (eA (sI g 0 30 (eI g 0 18)) 0 32) ((eI (sI g 0 30 (eI g 0 18)) 0 29).toNatClampNeg) (eI (sI g 0 30 (eI g 0 18)) 0 36)) (o := 0) (k := 32) (by decide) (Fr_sA (v := upd (eA (sI g 0 30 (eI g 0 18)) 0 31) ((eI (sI g 0 30 (eI g 0 18)) 0 29).toNatClampNeg) (eI (sI g 0 30 (eI g 0 18)) 0 30)) (o := 0) (k := 31) (by decide) (Fr_sI (v := eI g 0 18) (o := 0) (k := 30) (by decide) (Fr_refl _ g))))))
  obtain ⟨t8, eh8, ea8⟩ := TT_adv t7 (by omega) e8 f15 (by decide) (by decide) (by decide) b16
  have fn := w_f_X9_next _ _ b16
  have so : (eI g 0 17).toInt = 1 ∧ (eI g 0 18).toInt = kd h - 16 := by
    have tk := TT_tk bt
    rcases tk with u | u | u | u | u
    · omega
    · omega
    · omega
    · omega
    · have := u.2; unfold SG at this; omega
  have ecc : (eI g 0 29).toNatClampNeg = (eI h 9 1).toInt.toNat := by rw [Int32.toNatClampNeg]; omega
  have K30 : eI g16 0 30 = eI g 0 18 := fn.1 0 30 (by decide)
  have M31 : eA g16 0 31 = upd (eA g 0 31) (eI h 9 1).toInt.toNat (eI g 0 18) := by rw [fn.2.1 0 31 (by decide), ← ecc]; rfl
  have M32 : eA g16 0 32 = upd (eA g 0 32) (eI h 9 1).toInt.toNat (eI g 0 36) := by rw [fn.2.1 0 32 (by decide), ← ecc]; rfl
  have M33 : eA g16 0 33 = upd (eA g 0 33) (eI h 9 1).toInt.toNat (-1) := by rw [fn.2.1 0 33 (by decide), ← ecc]; rfl
  have M34 : eA g16 0 34 = upd (eA g 0 34) (eI h 9 1).toInt.toNat (-1) := by rw [fn.2.1 0 34 (by decide), ← ecc]; rfl
  have M35 : eA g16 0 35 = upd (eA g 0 35) (eI h 9 1).toInt.toNat (-1) := by rw [fn.2.1 0 35 (by decide), ← ecc]; rfl
  rw [K30, if_neg (fun q => by have := gi_of_lt q; omega)] at b
  have h852 : eI h8 5 2 = r1 - 16 := by rw [eh8, eh7]; rfl
  rw [h852] at e11
  have eh11 := cp_beginLaw_0 e11 (by omega) (by omega)
  have f8 : Fr [(0, 4, 4)] h7 h8 := by rw [eh8]; exact Fr_sI (by decide) (Fr_refl _ _)
  have f11 : Fr [(1, 9, 3)] h8 h11 := by rw [eh11]; exact Fr_sA (by decide) (Fr_refl _ _)
  have h1152 : eI h11 5 2 = r1 - 16 := (f11.1 5 2 (by decide)).trans h852
  have lk : eI g 0 18 = r1 - 16 := gi_eq (by omega)
  obtain ⟨f, st, lvl, g34, b34, eg1, e119, hf⟩ : ∃ (f st lvl : Int32) (g34 : HS), f_X9_opensFrame g16 f = some g34 ∧ g1 = sI g34 0 28 st ∧ f_X2_readClause_0_119 h11 lvl = some h' ∧ ((f.toInt = 2 ∧ st.toInt = 0 ∧ lvl = 0) ∨ (f.toInt = 1 ∧ st.toInt = 1 ∧ lvl = 3)) := by
    rw [h1152] at e
    unfold f_X9_clause_163 f_X9_clause_180 at b
    by_cases c3 : r1 - 16 = 3
    · rw [if_pos c3] at e
      rw [if_pos (lk.trans c3)] at b
      obtain ⟨g34, b34, b⟩ := ob1_some b
      have k34 : eI g34 0 30 = eI g16 0 30 := by
        obtain ⟨-, q⟩ := mp_opensFrame b34
        rw [q]; rfl
      rw [if_pos (by rw [k34, K30]; exact lk.trans c3)] at b
      exact ⟨2, 0, 0, g34, b34, (Option.some.inj b).symm, e, Or.inl ⟨rfl, rfl, rfl⟩⟩
    · rw [if_neg c3] at e
      rw [if_neg (fun q => c3 (lk.symm.trans q))] at b
      obtain ⟨g34, b34, b⟩ := ob1_some b
      have k34 : eI g34 0 30 = eI g16 0 30 := by
        obtain ⟨-, q⟩ := mp_opensFrame b34
        rw [q]; rfl
      rw [if_neg (fun q => c3 (by rw [k34, K30] at q; exact lk.symm.trans q))] at b
      exact ⟨1, 1, 3, g34, b34, (Option.some.inj b).symm, e, Or.inr ⟨rfl, rfl, rfl⟩⟩
  obtain ⟨-, eg34⟩ := mp_opensFrame b34
  have i22 : eI g16 0 22 = eI g 0 22 := fn.1 0 22 (by decide)
  have fA : Fr [(1, 0, 23), (0, 0, 22), (0, 0, 28)] g16 g1 := by rw [eg1, eg34]; exact Fr_sI (by decide) (Fr_sI (by decide) (Fr_sA (by decide) (Fr_refl _ _)))
  have a22 := fb_addI (x := eI g 0 22) (y := 1) (by omega) (by omega)
  have A22 : (eI g1 0 22).toInt = 1 := by
    rw [eg1, eg34]
    show (eI g16 0 22 + 1).toInt = 1
    rw [i22]; omega
  have A23 : (eA g1 0 23 0).toInt = f.toInt := by
    rw [eg1, eg34]
    show (upd (eA g16 0 23) (eI g16 0 22).toInt.toNat f 0).toInt = _
    rw [i22, b22]
    rfl
  have A28 : eI g1 0 28 = st := by rw [eg1]; rfl
  have A25 : (eI g1 0 25).toInt = 0 := by rw [fA.1 0 25 (by decide), fn.1 0 25 (by decide)]; exact b25
  have A21 : (eI g1 0 21).toInt = 0 := by rw [fA.1 0 21 (by decide), fn.1 0 21 (by decide)]; exact b21
  have A36 : eI g1 0 36 = eI g 0 36 := by rw [fA.1 0 36 (by decide), fn.1 0 36 (by decide)]; rfl
  have fg1 : Fr SPC g g1 := Fr_trans (Fr_mono (by decide) f15) (Fr_trans (Fr_mono (by decide) fn) (Fr_mono (by decide) fA))
  have q5 : eI h11 9 5 = eI h 9 5 := by rw [f11.1 9 5 (by decide), f8.1 9 5 (by decide), f7.1 9 5 (by decide)]
  have qa : at_ h11 = at_ h + 1 := by
    rw [← at7, ← ea8, eh11]; rfl
  have pr : PRE B L P 9 (eI h 9 1).toInt.toNat (0 : Int32).toInt h11 g1 := by
    refine ⟨TT_g (TT_h t8 f11 (by decide) (by decide) (by decide) (by decide) (by decide)) fA (by decide) (by decide) (by decide) (by decide) (by decide) (by decide), ?_, ?_, A21, by omega, ⟨by omega, by omega, fun i hi => by omega⟩, by rw [A36, q5]; omega, ⟨by rw [q5]; exact tx4, by rw [q5, qa]; omega⟩, ?_, ?_⟩
    · rw [f11.1 5 0 (by decide), f8.1 5 0 (by decide), f7.1 5 0 (by decide)]; exact bf
    · rw [fA.1 0 19 (by decide), fn.1 0 19 (by decide)]; exact bw
    · rw [fA.1 0 30 (by decide), K30, h1152]; exact lk
    · rw [h1152]; omega
  unfold f_X2_readClause_0_119 at e119
  obtain ⟨h17, e17, e119⟩ := ob1_some e119
  obtain ⟨h18, e18, e119⟩ := ob1_some e119
  have fh17 : Fr S_read_0 h11 h17 := w_G_read_0 _ _ _ _ _ _ e17
  have topx : eA g1 0 23 ((eI g1 0 22).toInt.toNat - 1) = eA g1 0 23 0 := by rw [A22]; rfl
  rcases (read_0 B L P (eI h 9 1).toInt.toNat 200).2.2 lvl h11 h17 g1 N r 0 e17 (by rcases hf with q | q <;> (rw [q.2.2]; decide)) (by rcases hf with q | q <;> (rw [q.2.2]; decide)) pr (by rw [A28]; rcases hf with q | q <;> (rw [q.2.2]; omega)) (by omega) (by rw [topx]; omega) (by rw [topx]; omega) (Or.inl (by omega)) et with bad | ⟨N2, g2, ps, et2, R, s2, rks, nop⟩
  · have bad2 := BAD_fr bad (w_f_X6_closeLaw_0 h17 _ _ e18) (by decide) (by decide)
    unfold f_X2_readClause_0_141 f_X2_readClause_0_158 f_X2_expect at e119
    obtain ⟨h16, e16, e119⟩ := ob1_some e119
    rw [if_neg bad2.1] at e16
    cases e16
    cases e119
    exact Or.inl (BADC_fr (BADC_of bad2 fg1) (Fr_sI (S := [(0, 9, 1)]) (by decide) (Fr_refl _ _)) (by decide) (by decide))
  · have x4 := R.2.2.2.1.1
    have x6 := R.2.2.2.1.2.2.1
    have top2 : (eA g2 0 23 ((eI g2 0 22).toInt.toNat - 1)).toInt = f.toInt := by
      rw [x4, x6 _ (by omega), topx]; exact A23
    refine lawend_0 (d := (eI h 9 1).toInt.toNat) (w := r1 - 16) (x1 := r1) bg ⟨by omega, by omega⟩ (by rw [show (r1 - 16).toInt = kd h - 16 by omega]; exact no) cc (by omega) ?_ (by omega) ?_ ?_ q5 ?_ ?_ qa h1152 ?_ ?_ ?_ ?_ ?_ A36 ?_ ?_ ?_ A21 A25 ?_ ?_ fg1 R fh17 (fun p hp => ?_) ?_ e18 e119
    · rw [f11.2.1 9 0 (by decide), f8.2.1 9 0 (by decide), eh7]; rfl
    · rw [eh11]
      show upd (eA h8 9 3) (r1 - 16).toInt.toNat (eI h8 9 5) = _
      rw [f8.2.1 9 3 (by decide), f7.2.1 9 3 (by decide), f8.1 9 5 (by decide), f7.1 9 5 (by decide)]
    · rw [f11.2.1 9 4 (by decide), f8.2.1 9 4 (by decide), f7.2.1 9 4 (by decide)]
    · rw [f11.2.1 9 2 (by decide), f8.2.1 9 2 (by decide), f7.2.1 9 2 (by decide)]
    · rw [f11.1 9 1 (by decide), f8.1 9 1 (by decide), f7.1 9 1 (by decide)]
    · rw [fA.2.1 0 31 (by decide), M31, lk]
    · rw [fA.2.1 0 32 (by decide), M32]
    · rw [fA.2.1 0 33 (by decide), M33]
    · rw [fA.2.1 0 34 (by decide), M34]
    · rw [fA.2.1 0 35 (by decide), M35]
    · rw [fA.2.1 0 37 (by decide), fn.2.1 0 37 (by decide)]; rfl
    · rw [fA.2.1 0 38 (by decide), fn.2.1 0 38 (by decide)]; rfl
    · rw [fA.1 0 29 (by decide), fn.1 0 29 (by decide)]; rfl
    · rw [fA.1 0 20 (by decide), fn.1 0 20 (by decide)]; exact bpl.2
    · rw [f11.1 5 1 (by decide), f8.1 5 1 (by decide), f7.1 5 1 (by decide)]; exact bpl.1
    · have := rks p hp
      rcases hf with q | q
      · rw [q.2.2] at this
        have : (1 : Int) ≤ rnk p := this
        omega
      · rw [q.2.2] at this
        have : (3 : Int) ≤ rnk p := this
        omega
    · rcases hf with ⟨q1, q2, q3⟩ | ⟨q1, q2, q3⟩
      · subst q3
        exact mp_end0 R.1 R.2.2.1 et2 (by omega) (by omega) nop
      · subst q3
        exact mp_end1 R.1 R.2.2.1 et2 (by omega) (by omega) nop
/-! text 0: a clause of a deed -/
theorem ds_number_0 {B : Int → Int} {L : Int} {P : Nat → Int} {a : Int} {h h' g : HS} {f lo hi : Int32} {z : Int32 × HS} (ds : DS B L P a h g) (e : f_X2_readNumber_0 h f lo hi = some h') (n : f_X9_number g lo hi = some z) (c0 : 0 ≤ (eI h 9 1).toInt) (c1 : (eI h 9 1).toInt < 24) (f0 : 0 ≤ f.toInt) (f1 : f.toInt < 4) (h0 : hi.toInt ≤ 99) : DS B L P a h' z.2 ∧ (eI h' 5 0 = 0 → eA h' 9 0 (4 * (eI h 9 1).toInt.toNat + f.toInt.toNat) = z.1) ∧ (∀ i : Nat, ¬ i = 4 * (eI h 9 1).toInt.toNat + f.toInt.toNat → eA h' 9 0 i = eA h 9 0 i) := by
  have z0 : (0 : Int32).toInt = 0 := rfl
  have z2 : (2 : Int32).toInt = 2 := rfl
  unfold f_X2_readNumber_0 f_X2_readNumber_0_69 at e
  unfold f_X9_number f_X9_number_15 at n
  rcases ds with ⟨t, p0, g0, ha⟩ | ⟨p0, g0, g1, g2⟩
  · rw [if_pos p0] at e
    rw [if_neg (fun q => by have := gi_of_lt q; rw [g0] at this; omega)] at n
    obtain ⟨r2, h2, e2, e⟩ := ob2_some e
    obtain ⟨u1, u2⟩ := TT_kind t e2
    obtain rfl : h = h2 := u1.symm
    replace u2 : r2.toInt = kd h := u2
    have bad : ∀ (w : Int32) (y : HS), f_X2_fail h w = some h' → f_X9_errs g w = some y → 0 < w.toInt → DS B L P a h' y ∧ (eI h' 5 0 = 0 → eA h' 9 0 (4 * (eI h 9 1).toInt.toNat + f.toInt.toNat) = z.1) ∧ (∀ i : Nat, ¬ i = 4 * (eI h 9 1).toInt.toNat + f.toInt.toNat → eA h' 9 0 i = eA h 9 0 i) := by
      intro w y ef en hw
      obtain ⟨rfl, rfl⟩ := TT_fail t p0 g0 ef en
      refine ⟨Or.inr ⟨fun q => ?_, hw, rfl, rfl⟩, fun q => ?_, fun i _ => rfl⟩
      · replace q : w = 0 := q
        rw [q] at hw; omega
      · replace q : w = 0 := q
        rw [q] at hw; omega
    by_cases k2 : kd h = 2
    · obtain ⟨so, nr⟩ := TK_num t k2
      rw [if_pos (gi_eq (by omega))] at e n
      obtain ⟨r4, h4, e4, e⟩ := ob2_some e
      obtain ⟨u3, u4⟩ := TT_value t e4
      obtain rfl : h = h4 := u3.symm
      replace u4 : r4.toInt = vl h := u4
      obtain ⟨r3, n3, n⟩ := ob1_some n
      have k3 := mx_in n3
      unfold NR at nr
      have b43 : f_X2_readNumber_0_43 h = some h' → (¬ (lo.toInt ≤ (eI g 0 18).toInt ∧ (eI g 0 18).toInt ≤ hi.toInt)) → DS B L P a h' z.2 ∧ (eI h' 5 0 = 0 → eA h' 9 0 (4 * (eI h 9 1).toInt.toNat + f.toInt.toNat) = z.1) ∧ (∀ i : Nat, ¬ i = 4 * (eI h 9 1).toInt.toNat + f.toInt.toNat → eA h' 9 0 i = eA h 9 0 i) := by
        intro e nn
        rcases k3 with ⟨rfl, k3⟩ | ⟨-, k3⟩
        · rw [if_pos rfl] at n
          unfold f_X2_readNumber_0_43 f_X2_readNumber_0_69 at e
          obtain ⟨h5, e5, e⟩ := ob1_some e
          cases e
          obtain ⟨g5, n5, n⟩ := ob1_some n
          cases n
          exact bad 2 g5 e5 n5 (by decide)
        · exact absurd k3 nn
      by_cases c4 : r4 < lo
      · rw [if_pos c4] at e
        have d4 := gi_of_lt c4
        exact b43 e (by omega)
      · rw [if_neg c4] at e
        have d4 := gi_of_nlt c4
        obtain ⟨r6, h6, e6, e⟩ := ob2_some e
        obtain ⟨u5, u6⟩ := TT_value t e6
        obtain rfl : h = h6 := u5.symm
        replace u6 : r6.toInt = vl h := u6
        by_cases c6 : r6 ≤ hi
        · rw [if_pos c6] at e
          have d6 := gi_of_le c6
          obtain ⟨r8, h8, e8, e⟩ := ob2_some e
          obtain ⟨u7, u8⟩ := TT_value t e8
          obtain rfl : h = h8 := u7.symm
          replace u8 : r8.toInt = vl h := u8
          obtain ⟨h9, e9, e⟩ := ob1_some e
          obtain ⟨h10, e10, e⟩ := ob1_some e
          obtain rfl : h10 = h' := Option.some.inj e
          rcases k3 with ⟨-, k3⟩ | ⟨rfl, k3⟩
          · exact absurd (by omega) k3
          · rw [if_neg (by decide)] at n
            obtain ⟨g5, n5, n⟩ := ob1_some n
            cases n
            have eh9 := cp_setClause_0 e9 c0 c1 f0 f1
            have f9 : Fr [(1, 9, 0)] h h9 := by rw [eh9]; exact Fr_sA (by decide) (Fr_refl _ _)
            have t9 := TT_h t f9 (by decide) (by decide) (by decide) (by decide) (by decide)
            obtain ⟨t10, eh10, ea⟩ := TT_adv t9 (by rw [eh9]; show ¬ kd h = 0; omega) e10 (Fr_refl [] g) (by decide) (by decide) (by decide) n5
            have fn := w_f_X9_next _ _ n5
            have f10 : Fr [(0, 4, 4)] h9 h10 := by rw [eh10]; exact Fr_sI (by decide) (Fr_refl _ _)
            have at9 : at_ h9 = at_ h := by rw [eh9]; rfl
            refine ⟨Or.inl ⟨t10, ?_, ?_, by have := ha.1; omega, by rw [f10.1 5 1 (by decide), f9.1 5 1 (by decide)]; exact ha.2.1, (fn.1 0 20 (by decide)).trans ha.2.2⟩, fun _ => ?_, fun i hi => ?_⟩
            · rw [f10.1 5 0 (by decide), f9.1 5 0 (by decide)]; exact p0
            · show eI g5 0 19 = 0
              rw [fn.1 0 19 (by decide)]; exact g0
            · show eA h10 9 0 _ = eI g 0 18
              rw [f10.2.1 9 0 (by decide), eh9]
              show upd (eA h 9 0) _ r8 _ = _
              unfold upd
              rw [if_pos rfl]
              exact gi_eq (by omega)
            · rw [f10.2.1 9 0 (by decide), eh9]
              show upd (eA h 9 0) _ r8 i = _
              unfold upd
              rw [if_neg hi]
        · rw [if_neg c6] at e
          have d6 := gi_of_nle c6
          exact b43 e (by omega)
    · rw [if_neg (fun q => by have := gi_of_eq q; omega)] at e
      have tn := TK_not t k2
      have so : ¬ (eI g 0 17).toInt = 2 := by
        rcases tn with q | q | q | q
        · omega
        · omega
        · omega
        · omega
      rw [if_neg (fun q => by have := gi_of_eq q; omega)] at n
      obtain ⟨h5, e5, e⟩ := ob1_some e
      cases e
      obtain ⟨g5, n5, n⟩ := ob1_some n
      cases n
      exact bad 1 g5 e5 n5 (by decide)
  · rw [if_neg p0] at e
    cases e
    rw [if_pos (gi_lt (by omega))] at n
    obtain ⟨g5, n5, n⟩ := ob1_some n
    cases n
    have eg : g5 = g := by
      unfold f_X9_errs f_X9_errs_20 at n5
      rw [if_neg (fun q => by rw [q] at g0; exact absurd g0 (by decide))] at n5
      cases n5; rfl
    refine ⟨Or.inr ?_, fun q => absurd q p0, fun i _ => rfl⟩
    show _ ∧ _ ∧ _ ∧ _
    rw [eg]
    exact ⟨p0, g0, g1, g2⟩
theorem deedend_0 {B : Int → Int} {L : Int} {P : Nat → Int} {d : Nat} {h g hD gD h' g1 : HS} {N : Nat} {r : Int32 × HS} {w x1 : Int32} (bg : BEG B L P 9 h g) (hw : 4 ≤ w.toInt ∧ w.toInt ≤ 7) (cc : (eI h 9 1).toInt < 24) (hd : (d : Int) = (eI h 9 1).toInt) (fc : Fr [(0, 4, 4), (0, 5, 0), (0, 5, 1), (0, 5, 2), (1, 9, 0)] h hD) (fm : Fr [(0, 0, 15), (0, 0, 16), (0, 0, 17), (0, 0, 18), (0, 0, 19), (0, 0, 20), (0, 0, 30), (1, 0, 31), (1, 0, 32), (1, 0, 33), (1, 0, 34), (1, 0, 35)] g gD) (m31 : eA gD 0 31 = upd (eA g 0 31) d w) (m3 : ∀ c : Nat, ¬ c = d → eA gD 0 32 c = eA g 0 32 c ∧ eA gD 0 33 c = eA g 0 33 c ∧ eA gD 0 34 c = eA g 0 34 c ∧ eA gD 0 35 c = eA g 0 35 c) (c0 : ∀ i : Nat, i < 4 * d → eA hD 9 0 i = eA h 9 0 i) (c1 : eA hD 9 0 (4 * d) = x1) (hx1 : x1.toInt = 16 + w.toInt) (ds : DS B L P (at_ h) hD gD) (v1 : eI hD 5 0 = 0 → eA hD 9 0 (4 * d + 1) = eA gD 0 33 d ∧ (w.toInt ≤ 5 → eA hD 9 0 (4 * d + 2) = eA gD 0 34 d) ∧ (w.toInt = 4 → eA hD 9 0 (4 * d + 3) = eA gD 0 35 d)) (e : f_X2_readClause_0_141 hD = some h') (b : f_X9_clause_301 gD = some g1) (et : f_X9_text_74 N g1 = some r) : BADC r h' g ∨ NXT_0 B L P r h h' g := by
  have z1 : (1 : Int32).toInt = 1 := rfl
  have z15 : (15 : Int32).toInt = 15 := rfl
  have z59 : (59 : Int32).toInt = 59 := rfl
  obtain ⟨bt, bf, bw, b21, b22, b25, b28, bpl, tx1, ⟨tx2, tx3⟩, tx4, tx5, tx6, tx7, tx8⟩ := id bg
  unfold f_X2_readClause_0_141 f_X2_readClause_0_158 at e
  obtain ⟨h16, e16, e⟩ := ob1_some e
  have eh' : h' = sI h16 9 1 (eI h16 9 1 + 1) := (Option.some.inj e).symm
  have f' : Fr [(0, 9, 1)] h16 h' := by rw [eh']; exact Fr_sI (by decide) (Fr_refl _ _)
  unfold f_X2_expect f_X2_expect_29 at e16
  unfold f_X9_clause_301 at b
  rcases ds with ⟨t, p0, g0, ha⟩ | ⟨p0, g0, q1, q2⟩
  · rw [if_pos p0] at e16
    rw [if_pos g0] at b
    obtain ⟨rr, hh, e16a, e16⟩ := ob2_some e16
    obtain ⟨u1, u2⟩ := TT_kind t e16a
    obtain rfl : hD = hh := u1.symm
    replace u2 : rr.toInt = kd hD := u2
    obtain ⟨r37, g37, b37, b⟩ := ob2_some b
    obtain ⟨y1, y2⟩ := mp_isSign b37
    obtain rfl : gD = g37 := y1.symm
    have tk := TT_tk t
    have same : (eI gD 0 17).toInt = 3 ∧ (eI gD 0 18).toInt = 59 ↔ kd hD = 15 := by
      rcases tk with u | u | u | u | u
      · omega
      · omega
      · omega
      · omega
      · have := u.2; unfold SG at this; omega
    rcases y2 with ⟨y2, y3⟩ | ⟨y2, y3⟩
    · replace y2 : r37 = 0 := y2
      rw [if_pos y2] at b
      obtain ⟨g39, b39, b⟩ := ob1_some b
      rw [if_neg (fun q => by have := gi_of_eq q; exact y3 (same.mpr (by omega)))] at e16
      obtain ⟨h4, e4, e16⟩ := ob1_some e16
      cases e16
      obtain ⟨rfl, rfl⟩ := TT_fail t p0 g0 e4 b39
      unfold f_X9_clause_322 f_X9_clause_333 at b
      rw [if_neg (show ¬ eI (sI (sI gD 0 19 1) 0 20 (eI gD 0 16)) 0 19 = 0 from (by decide : ¬ (1 : Int32) = 0))] at b
      cases b
      refine Or.inl ⟨?_, N, _, et, ?_, ?_, Fr_sI (by decide) (Fr_sI (by decide) (Fr_mono (by decide) fm)), (by decide : 0 < (1 : Int32).toInt)⟩
      · rw [f'.1 5 0 (by decide)]; exact (by decide : ¬ (1 : Int32) = 0)
      · rw [f'.1 5 0 (by decide)]; rfl
      · rw [f'.1 5 1 (by decide)]; rfl
    · replace y2 : r37 = 1 := y2
      rw [if_neg (by rw [y2]; decide)] at b
      have k15 := same.mp y3
      rw [if_pos (gi_eq (by omega))] at e16
      obtain ⟨h5, e5, e16⟩ := ob1_some e16
      obtain rfl : h5 = h16 := Option.some.inj e16
      unfold f_X9_clause_322 f_X9_clause_333 at b
      rw [if_pos g0] at b
      obtain ⟨g41, b41, b⟩ := ob1_some b
      cases b
      obtain ⟨ga, gb, gc, ba, bb, bc, eg3⟩ := mp_over b41
      subst eg3
      unfold f_X9_works at ba
      have w25 : (eI gD 0 25).toInt = 0 := by rw [fm.1 0 25 (by decide)]; exact b25
      obtain ⟨n1, n2, n3, n4, n5⟩ := mp_works (F := (eI gD 0 22).toInt) [] _ gD ga 0 ba w25 rfl trivial (fun p hp => absurd hp List.not_mem_nil) (Or.inl rfl)
      replace n2 : (eI ga 0 36).toInt = (eI gD 0 36).toInt + (0 : Int) := n2
      obtain ⟨⟨v1', v2'⟩, egb⟩ := mp_emits bb
      replace v1' : 0 ≤ (eI ga 0 36).toInt := v1'
      replace v2' : (eI ga 0 36).toInt < 400 := v2'
      replace egb : gb = sI (sA (sA (sI ga 0 22 0) 0 37 (upd (eA ga 0 37) (eI ga 0 36).toInt.toNat 408)) 0 38 (upd (eA ga 0 38) (eI ga 0 36).toInt.toNat 0)) 0 36 (eI ga 0 36 + 1) := egb
      have fB : Fr [(0, 0, 25), (0, 0, 36), (1, 0, 37), (1, 0, 38), (0, 0, 22), (0, 0, 29)] gD (sI gb 0 29 (eI gb 0 29 + 1)) := by
        rw [egb]
        exact Fr_sI (by decide) (Fr_sI (by decide) (Fr_sA (by decide) (Fr_sA (by decide) (Fr_sI (by decide) (Fr_mono (by decide) n5)))))
      obtain ⟨t5, eh5, ea5⟩ := TT_adv t (by omega) e5 fB (by decide) (by decide) (by decide) bc
      have fn := w_f_X9_next _ _ bc
      have f5 : Fr [(0, 4, 4)] hD h5 := by rw [eh5]; exact Fr_sI (by decide) (Fr_refl _ _)
      have fC : Fr [(0, 0, 28)] gc (sI gc 0 28 4) := Fr_sI (by decide) (Fr_refl _ _)
      have d36 : eI gD 0 36 = eI g 0 36 := fm.1 0 36 (by decide)
      have hb29 : eI gb 0 29 = eI g 0 29 := by
        rw [egb]
        show eI ga 0 29 = _
        rw [n5.1 0 29 (by decide), fm.1 0 29 (by decide)]
      have G29 : eI (sI gc 0 28 4) 0 29 = eI g 0 29 + 1 := by
        rw [fC.1 0 29 (by decide), fn.1 0 29 (by decide)]
        show eI gb 0 29 + 1 = _
        rw [hb29]
      have G36 : eI (sI gc 0 28 4) 0 36 = eI ga 0 36 + 1 := by
        rw [fC.1 0 36 (by decide), fn.1 0 36 (by decide), egb]; rfl
      have G37 : eA (sI gc 0 28 4) 0 37 = upd (eA ga 0 37) (eI ga 0 36).toInt.toNat 408 := by
        rw [fC.2.1 0 37 (by decide), fn.2.1 0 37 (by decide), egb]; rfl
      have G38 : eA (sI gc 0 28 4) 0 38 = upd (eA ga 0 38) (eI ga 0 36).toInt.toNat 0 := by
        rw [fC.2.1 0 38 (by decide), fn.2.1 0 38 (by decide), egb]; rfl
      have G31 : eA (sI gc 0 28 4) 0 31 = eA gD 0 31 := by rw [fC.2.1 0 31 (by decide), fn.2.1 0 31 (by decide), fB.2.1 0 31 (by decide)]
      have G32 : eA (sI gc 0 28 4) 0 32 = eA gD 0 32 := by rw [fC.2.1 0 32 (by decide), fn.2.1 0 32 (by decide), fB.2.1 0 32 (by decide)]
      have G33 : eA (sI gc 0 28 4) 0 33 = eA gD 0 33 := by rw [fC.2.1 0 33 (by decide), fn.2.1 0 33 (by decide), fB.2.1 0 33 (by decide)]
      have G34 : eA (sI gc 0 28 4) 0 34 = eA gD 0 34 := by rw [fC.2.1 0 34 (by decide), fn.2.1 0 34 (by decide), fB.2.1 0 34 (by decide)]
      have G35 : eA (sI gc 0 28 4) 0 35 = eA gD 0 35 := by rw [fC.2.1 0 35 (by decide), fn.2.1 0 35 (by decide), fB.2.1 0 35 (by decide)]
      have H1 : eI h' 9 1 = eI h 9 1 + 1 := by
        rw [eh']
        show eI h5 9 1 + 1 = _
        rw [f5.1 9 1 (by decide), fc.1 9 1 (by decide)]
      have H5 : eI h' 9 5 = eI h 9 5 := by
        rw [f'.1 9 5 (by decide), f5.1 9 5 (by decide), fc.1 9 5 (by decide)]
      have H0 : eA h' 9 0 = eA hD 9 0 := by rw [f'.2.1 9 0 (by decide), f5.2.1 9 0 (by decide)]
      have H2 : eA h' 9 2 = eA h 9 2 := by rw [f'.2.1 9 2 (by decide), f5.2.1 9 2 (by decide), fc.2.1 9 2 (by decide)]
      have H3 : eA h' 9 3 = eA h 9 3 := by rw [f'.2.1 9 3 (by decide), f5.2.1 9 3 (by decide), fc.2.1 9 3 (by decide)]
      have H4 : eA h' 9 4 = eA h 9 4 := by rw [f'.2.1 9 4 (by decide), f5.2.1 9 4 (by decide), fc.2.1 9 4 (by decide)]
      have Ha : at_ h' = at_ hD + 1 := by
        rw [← ea5, eh']; rfl
      have z1a := fb_addI (x := eI h 9 1) (y := 1) (by omega) (by omega)
      have z2a := fb_addI (x := eI g 0 29) (y := 1) (by omega) (by omega)
      have z3a := fb_addI (x := eI ga 0 36) (y := 1) (by omega) (by omega)
      rw [d36] at n2 n3
      have T5 : TT B L P h' (sI gc 0 28 4) := TT_h (TT_g t5 fC (by decide) (by decide) (by decide) (by decide) (by decide) (by decide)) f' (by decide) (by decide) (by decide) (by decide) (by decide)
      have vv := v1 p0
      have ha1 := ha.1
      refine Or.inr ⟨N, _, et, ⟨T5, ?_, ?_, ?_, ?_, ?_, rfl, ⟨by rw [f'.1 5 1 (by decide), f5.1 5 1 (by decide)]; exact ha.2.1, by rw [fC.1 0 20 (by decide), fn.1 0 20 (by decide), fB.1 0 20 (by decide)]; exact ha.2.2⟩, ?_, ⟨?_, ?_⟩, ?_, ?_, ?_, ?_, ?_⟩, by rw [H1]; omega, Fr_trans (Fr_mono (by decide) fm) (Fr_trans (Fr_mono (by decide) fB) (Fr_trans (Fr_mono (by decide) fn) (Fr_mono (by decide) fC)))⟩
      · rw [f'.1 5 0 (by decide), f5.1 5 0 (by decide)]; exact p0
      · rw [fC.1 0 19 (by decide), fn.1 0 19 (by decide), fB.1 0 19 (by decide)]; exact g0
      · rw [fC.1 0 21 (by decide), fn.1 0 21 (by decide), fB.1 0 21 (by decide), fm.1 0 21 (by decide)]; exact b21
      · rw [fC.1 0 22 (by decide), fn.1 0 22 (by decide), egb]; rfl
      · rw [fC.1 0 25 (by decide), fn.1 0 25 (by decide), egb]
        show (eI ga 0 25).toInt = 0
        omega
      · rw [H1, G29]; omega
      · rw [H1]; omega
      · rw [H1]; omega
      · rw [H5]; omega
      · rw [G36, H5, H1]; omega
      · rw [H5, Ha]; omega
      · intro c hc
        rw [H1] at hc
        by_cases cd : c = d
        · subst cd
          have W : (eA (sI gc 0 28 4) 0 31 c).toInt = w.toInt := by
            rw [G31, m31]
            unfold upd
            rw [if_pos rfl]
          unfold CLR
          rw [W, H0, G33, G34, G35]
          exact ⟨by omega, by omega, by rw [c1]; exact hx1, fun q => by omega, fun _ => vv⟩
        · have hc2 : (c : Int) < (eI h 9 1).toInt := by omega
          have mm := m3 c cd
          refine CLR_keep (n := (eI h 9 1).toInt) (s := (eI h 9 5).toInt) (r := (eI g 0 36).toInt) (tx7 c hc2) hc2 (fun i hi => ?_) (fun i hi => ?_) (fun v v4 hv => ?_) rfl (by rw [H5]; exact Int.le_refl _) (by omega) ?_ ?_ ?_ ?_ ?_ (fun i hi => ?_)
          · rw [H0]; exact c0 i (by omega)
          · rw [H2]
          · rw [H3, H4]; exact ⟨rfl, rfl⟩
          · rw [G31, m31]; unfold upd; rw [if_neg cd]
          · rw [G32]; exact mm.1
          · rw [G33]; exact mm.2.1
          · rw [G34]; exact mm.2.2.1
          · rw [G35]; exact mm.2.2.2
          · rw [G37, G38]
            unfold upd
            rw [if_neg (by omega), if_neg (by omega)]
            have := n3 i hi
            rw [this.1, this.2, fm.2.1 0 37 (by decide), fm.2.1 0 38 (by decide)]
            exact ⟨rfl, rfl⟩
      · intro v v4
        rw [H3, H1, G31, m31]
        rcases tx8 v v4 with ⟨y1, y2⟩ | ⟨y1, c, y2, y3⟩
        · refine Or.inl ⟨y1, fun c hc => ?_⟩
          unfold upd
          by_cases cd : c = d
          · rw [if_pos cd]; omega
          · rw [if_neg cd]; exact y2 c (by omega)
        · refine Or.inr ⟨y1, c, by omega, ?_⟩
          unfold upd
          rw [if_neg (by omega)]
          exact y3
  · rw [if_neg p0] at e16
    cases e16
    have w0 : ¬ eI gD 0 19 = 0 := fun q => by rw [q] at g0; exact absurd g0 (by decide)
    rw [if_neg w0] at b
    unfold f_X9_clause_322 f_X9_clause_333 at b
    rw [if_neg w0] at b
    cases b
    refine Or.inl ⟨?_, N, _, et, ?_, ?_, Fr_mono (by decide) fm, g0⟩
    · rw [f'.1 5 0 (by decide)]; exact p0
    · rw [f'.1 5 0 (by decide)]; exact q1
    · rw [f'.1 5 1 (by decide)]; exact q2
theorem deed_0 {B : Int → Int} {L : Int} {P : Nat → Int} {h h' h7 h8 h10 g g1 : HS} {N : Nat} {r : Int32 × HS} {r1 : Int32} (bg : BEG B L P 9 h g) (hr1 : r1.toInt = kd h) (k0 : 20 ≤ kd h) (k1 : kd h ≤ 23) (cc : (eI h 9 1).toInt < 24) (e7 : f_X6_setClause_0 (sI h 5 2 (r1 - 16)) (eI h 9 1) 0 r1 = some h7) (e8 : f_X7_advance h7 = some h8) (e10 : f_X2_readDeed_0 h8 r1 = some h10) (e : f_X2_readClause_0_141 h10 = some h') (b : f_X9_clause_73 (sI g 0 30 (eI g 0 18)) = some g1) (et : f_X9_text_74 N g1 = some r) : BADC r h' g ∨ NXT_0 B L P r h h' g := by
  have z0 : (0 : Int32).toInt = 0 := rfl
  have z1 : (1 : Int32).toInt = 1 := rfl
  have z3 : (3 : Int32).toInt = 3 := rfl
  have z4 : (4 : Int32).toInt = 4 := rfl
  have z5 : (5 : Int32).toInt = 5 := rfl
  have z7 : (7 : Int32).toInt = 7 := rfl
  have z20 : (20 : Int32).toInt = 20 := rfl
  have z21 : (21 : Int32).toInt = 21 := rfl
  have z23 : (23 : Int32).toInt = 23 := rfl
  obtain ⟨bt, bf, bw, b21, b22, b25, b28, bpl, tx1, ⟨tx2, tx3⟩, tx4, tx5, tx6, tx7, tx8⟩ := id bg
  have eh7 := cp_setClause_0 e7 tx2 (by omega) (by decide) (by decide)
  have f7 : Fr [(0, 5, 2), (1, 9, 0)] h h7 := by rw [eh7]; exact Fr_sA (by decide) (Fr_sI (by decide) (Fr_refl _ _))
  have t7 := TT_h bt f7 (by decide) (by decide) (by decide) (by decide) (by decide)
  have kd7 : kd h7 = kd h := by rw [eh7]; rfl
  have at7 : at_ h7 = at_ h := by rw [eh7]; rfl
  unfold f_X9_clause_73 at b
  rw [if_pos (show eI (sI g 0 30 (eI g 0 18)) 0 19 ≤ 0 by show eI g 0 19 ≤ 0; rw [bw]; decide)] at b
  obtain ⟨-, b⟩ := ob_if b
  obtain ⟨-, b⟩ := ob_if b
  obtain ⟨-, b⟩ := ob_if b
  obtain ⟨-, b⟩ := ob_if b
  obtain ⟨-, b⟩ := ob_if b
  obtain ⟨g16, b16, b⟩ := ob1_some b
  have f15 : Fr [(0, 0, 30), (1, 0, 31), (1, 0, 32), (1, 0, 33), (1, 0, 34), (1, 0, 35)] g _ := Fr_sA (v := upd (eA (sI g 0 30 (eI g 0 18)) 0 35) ((eI (sI g 0 30 (eI g 0 18)) 0 29).toNatClampNeg) (-1)) (o := 0) (k := 35) (by decide) (Fr_sA (v := upd (eA (sI g 0 30 (eI g 0 18)) 0 34) ((eI (sI g 0 30 (eI g 0 18)) 0 29).toNatClampNeg) (-1)) (o := 0) (k := 34) (by decide) (Fr_sA (v := upd (eA (sI g 0 30 (eI g 0 18)) 0 33) ((eI (sI g 0 30 (eI g 0 18)) 0 29).toNatClampNeg) (-1)) (o := 0) (k := 33) (by decide) (Fr_sA (v := upd (eA (sI g 0 30 (eI g 0 18)) 0 32) ((eI (sI g 0 30 (eI g 0 18)) 0 29).toNatClampNeg) (eI (sI g 0 30 (eI g 0 18)) 0 36)) (o := 0) (k := 32) (by decide) (Fr_sA (v := upd (eA (sI g 0 30 (eI g 0 18)) 0 31) ((eI (sI g 0 30 (eI g 0 18)) 0 29).toNatClampNeg) (eI (sI g 0 30 (eI g 0 18)) 0 30)) (o := 0) (k := 31) (by decide) (Fr_sI (v := eI g 0 18) (o := 0) (k := 30) (by decide) (Fr_refl _ g))))))
  obtain ⟨t8, eh8, ea8⟩ := TT_adv t7 (by omega) e8 f15 (by decide) (by decide) (by decide) b16
  have fn := w_f_X9_next _ _ b16
  have so : (eI g 0 17).toInt = 1 ∧ (eI g 0 18).toInt = kd h - 16 := by
    have tk := TT_tk bt
    rcases tk with u | u | u | u | u
    · omega
    · omega
    · omega
    · omega
    · have := u.2; unfold SG at this; omega
  have ecc : (eI g 0 29).toNatClampNeg = (eI h 9 1).toInt.toNat := by rw [Int32.toNatClampNeg]; omega
  have K30 : eI g16 0 30 = eI g 0 18 := fn.1 0 30 (by decide)
  have K29 : eI g16 0 29 = eI g 0 29 := fn.1 0 29 (by decide)
  have M31 : eA g16 0 31 = upd (eA g 0 31) (eI h 9 1).toInt.toNat (eI g 0 18) := by rw [fn.2.1 0 31 (by decide), ← ecc]; rfl
  have M32 : eA g16 0 32 = upd (eA g 0 32) (eI h 9 1).toInt.toNat (eI g 0 36) := by rw [fn.2.1 0 32 (by decide), ← ecc]; rfl
  have M33 : eA g16 0 33 = upd (eA g 0 33) (eI h 9 1).toInt.toNat (-1) := by rw [fn.2.1 0 33 (by decide), ← ecc]; rfl
  have M34 : eA g16 0 34 = upd (eA g 0 34) (eI h 9 1).toInt.toNat (-1) := by rw [fn.2.1 0 34 (by decide), ← ecc]; rfl
  have M35 : eA g16 0 35 = upd (eA g 0 35) (eI h 9 1).toInt.toNat (-1) := by rw [fn.2.1 0 35 (by decide), ← ecc]; rfl
  rw [K30, if_pos (gi_lt (by omega))] at b
  have f8 : Fr [(0, 4, 4)] h7 h8 := by rw [eh8]; exact Fr_sI (by decide) (Fr_refl _ _)
  have fc8 : Fr [(0, 4, 4), (0, 5, 0), (0, 5, 1), (0, 5, 2), (1, 9, 0)] h h8 := Fr_trans (Fr_mono (by decide) f7) (Fr_mono (by decide) f8)
  have H1 : eI h8 9 1 = eI h 9 1 := fc8.1 9 1 (by decide)
  have C8 : eA h8 9 0 = upd (eA h 9 0) (4 * (eI h 9 1).toInt.toNat) r1 := by rw [f8.2.1 9 0 (by decide), eh7]; rfl
  have fm16 : Fr [(0, 0, 15), (0, 0, 16), (0, 0, 17), (0, 0, 18), (0, 0, 19), (0, 0, 20), (0, 0, 30), (1, 0, 31), (1, 0, 32), (1, 0, 33), (1, 0, 34), (1, 0, 35)] g g16 := Fr_trans (Fr_mono (by decide) f15) (Fr_mono (by decide) fn)
  have ds8 : DS B L P (at_ h) h8 g16 := Or.inl ⟨t8, ((f8.1 5 0 (by decide)).trans (f7.1 5 0 (by decide))).trans bf, (fn.1 0 19 (by decide)).trans bw, by omega, ((f8.1 5 1 (by decide)).trans (f7.1 5 1 (by decide))).trans bpl.1, (fn.1 0 20 (by decide)).trans bpl.2⟩
  have dd : (((eI h 9 1).toInt.toNat : Nat) : Int) = (eI h 9 1).toInt := by omega
  -- the first number
  have first : ∀ (lo hi : Int32) (h2 : HS) (z : Int32 × HS), f_X2_readNumber_0 h8 1 lo hi = some h2 → f_X9_number g16 lo hi = some z → hi.toInt ≤ 99 → DS B L P (at_ h) h2 (sA z.2 0 33 (upd (eA z.2 0 33) (eI h 9 1).toInt.toNat z.1)) ∧ (eI h2 5 0 = 0 → eA h2 9 0 (4 * (eI h 9 1).toInt.toNat + 1) = z.1) ∧ (∀ i : Nat, i < 4 * (eI h 9 1).toInt.toNat → eA h2 9 0 i = eA h 9 0 i) ∧ eA h2 9 0 (4 * (eI h 9 1).toInt.toNat) = r1 ∧ Fr [(0, 4, 4), (0, 5, 0), (0, 5, 1), (0, 5, 2), (1, 9, 0)] h h2 ∧ Fr [(0, 0, 15), (0, 0, 16), (0, 0, 17), (0, 0, 18), (0, 0, 19), (0, 0, 20)] g16 z.2 := by
    intro lo hi h2 z e2 n2 hh
    obtain ⟨y1, y2, y3⟩ := ds_number_0 ds8 e2 n2 (by rw [H1]; exact tx2) (by rw [H1]; exact cc) (by decide) (by decide) hh
    rw [H1] at y2 y3
    have fz : Fr S_X9_number g16 z.2 := w_f_X9_number _ _ _ _ n2
    have fr2 := w_f_X2_readNumber_0 _ _ _ _ _ e2
    refine ⟨DS_g y1 (Fr_sA (S := [(1, 0, 33)]) (by decide) (Fr_refl _ _)) (by decide) (by decide) (by decide) (by decide) (by decide) (by decide) (by decide) (by decide), y2, fun i hi => ?_, ?_, Fr_trans fc8 (Fr_mono (by decide) fr2), Fr_mono (by decide) fz⟩
    · rw [y3 i (fun q => by have q : i = 4 * (eI h 9 1).toInt.toNat + 1 := q; omega), C8]
      unfold upd
      rw [if_neg (by omega)]
    · rw [y3 _ (fun q => by have q : 4 * (eI h 9 1).toInt.toNat = 4 * (eI h 9 1).toInt.toNat + 1 := q; omega), C8]
      unfold upd
      rw [if_pos rfl]
  have pass : ∀ (lo hi : Int32) (z : Int32 × HS), f_X2_readNumber_0 h8 1 lo hi = some h10 → f_X9_number g16 lo hi = some z → hi.toInt ≤ 99 → f_X9_clause_218 z.2 z.1 (eI g16 0 29) = some g1 → 6 ≤ (eI g 0 18).toInt → BADC r h' g ∨ NXT_0 B L P r h h' g := by
    intro lo hi z e2 n2 hh b hk
    obtain ⟨y1, y2, y3, y4, y5, y6⟩ := first lo hi h10 z e2 n2 hh
    unfold f_X9_clause_218 at b
    obtain ⟨-, b⟩ := ob_if b
    have k30 : eI z.2 0 30 = eI g 0 18 := (y6.1 0 30 (by decide)).trans K30
    rw [k30, if_neg (fun q => by have := gi_of_eq q; omega), if_neg (fun q => by have := gi_of_eq q; omega), K29, ecc] at b
    refine deedend_0 (d := (eI h 9 1).toInt.toNat) (w := eI g 0 18) (x1 := r1) bg ⟨by omega, by omega⟩ cc dd y5 (Fr_sA (by decide) (Fr_trans fm16 (Fr_mono (by decide) y6))) ?_ (fun c hc => ?_) y3 y4 (by omega) y1 (fun q => ⟨?_, fun q => by omega, fun q => by omega⟩) e b et
    · show eA z.2 0 31 = _
      rw [y6.2.1 0 31 (by decide)]; exact M31
    · show eA z.2 0 32 c = _ ∧ upd (eA z.2 0 33) _ z.1 c = _ ∧ eA z.2 0 34 c = _ ∧ eA z.2 0 35 c = _
      rw [y6.2.1 0 32 (by decide), y6.2.1 0 33 (by decide), y6.2.1 0 34 (by decide), y6.2.1 0 35 (by decide), M32, M33, M34, M35]
      unfold upd
      rw [if_neg hc, if_neg hc, if_neg hc, if_neg hc, if_neg hc]
      exact ⟨rfl, rfl, rfl, rfl⟩
    · rw [y2 q]
      show z.1 = upd (eA z.2 0 33) _ z.1 _
      unfold upd
      rw [if_pos rfl]
  unfold f_X2_readDeed_0 f_X2_readDeed_0_90 at e10
  by_cases c23 : kd h = 23
  · rw [if_pos (gi_eq (by omega))] at e10
    obtain ⟨h11, e11, e10⟩ := ob1_some e10
    cases e10
    rw [if_pos (gi_eq (by omega))] at b
    obtain ⟨ra, g20, n20, b⟩ := ob2_some b
    exact pass 1 99 (ra, g20) e11 n20 (by decide) b (by omega)
  · rw [if_neg (fun q => by have := gi_of_eq q; omega)] at e10
    rw [if_neg (fun q => by have := gi_of_eq q; omega)] at b
    obtain ⟨h2, e2, e10⟩ := ob1_some e10
    obtain ⟨ra, g19, n19, b⟩ := ob2_some b
    by_cases c22 : kd h = 22
    · rw [if_neg (fun q => by have := gi_of_eq q; omega), if_neg (fun q => by have := gi_of_eq q; omega)] at e10
      cases e10
      exact pass 0 9 (ra, g19) e2 n19 (by decide) b (by omega)
    · obtain ⟨y1, y2, y3, y4, y5, y6⟩ := first 0 9 h2 (ra, g19) e2 n19 (by decide)
      replace y6 : Fr [(0, 0, 15), (0, 0, 16), (0, 0, 17), (0, 0, 18), (0, 0, 19), (0, 0, 20)] g16 g19 := y6
      unfold f_X9_clause_218 at b
      obtain ⟨-, b⟩ := ob_if b
      have k30 : eI g19 0 30 = eI g 0 18 := (y6.1 0 30 (by decide)).trans K30
      have k29 : eI g19 0 29 = eI g 0 29 := (y6.1 0 29 (by decide)).trans K29
      rw [k30, K29, ecc] at b
      have hh2 : eI h2 9 1 = eI h 9 1 := y5.1 9 1 (by decide)
      generalize hgA : (sA g19 0 33 (upd (eA g19 0 33) (eI h 9 1).toInt.toNat ra)) = gA at b y1
      have fA : Fr [(1, 0, 33)] g19 gA := by rw [← hgA]; exact Fr_sA (by decide) (Fr_refl _ _)
      have A33 : eA gA 0 33 = upd (eA g19 0 33) (eI h 9 1).toInt.toNat ra := by rw [← hgA]; rfl
      -- the second number
      have second : ∀ (k w lo hi : Int32) (h5 h6 g25 : HS) (z : Int32 × HS), f_X2_expect h2 k = some h5 → f_X9_wants gA w = some g25 → k.toInt = 16 + w.toInt → (0 ≤ w.toInt ∧ w.toInt ≤ 21) → f_X2_readNumber_0 h5 2 lo hi = some h6 → f_X9_number g25 lo hi = some z → hi.toInt ≤ 99 → eI g25 0 29 = eI g 0 29 ∧ DS B L P (at_ h) h6 (sA z.2 0 34 (upd (eA z.2 0 34) (eI h 9 1).toInt.toNat z.1)) ∧ (eI h6 5 0 = 0 → eI h2 5 0 = 0 ∧ eA h6 9 0 (4 * (eI h 9 1).toInt.toNat + 2) = z.1) ∧ (∀ i : Nat, ¬ i = 4 * (eI h 9 1).toInt.toNat + 2 → eA h6 9 0 i = eA h2 9 0 i) ∧ Fr [(0, 4, 4), (0, 5, 0), (0, 5, 1), (0, 5, 2), (1, 9, 0)] h h6 ∧ Fr [(0, 0, 15), (0, 0, 16), (0, 0, 17), (0, 0, 18), (0, 0, 19), (0, 0, 20)] gA z.2 := by
        intro k w lo hi h5 h6 g25 z ex ew hk hw e6 n6 hh
        have d5 := ds_expect y1 ex ew hk hw
        have fx := w_f_X2_expect _ _ _ ex
        have fw : Fr S_X9_wants gA g25 := w_f_X9_wants _ _ _ ew
        have hh5 : eI h5 9 1 = eI h 9 1 := (fx.1 9 1 (by decide)).trans hh2
        obtain ⟨v1, v2, v3⟩ := ds_number_0 d5 e6 n6 (by rw [hh5]; exact tx2) (by rw [hh5]; exact cc) (by decide) (by decide) hh
        rw [hh5] at v2 v3
        have fz : Fr S_X9_number g25 z.2 := w_f_X9_number _ _ _ _ n6
        have fr6 := w_f_X2_readNumber_0 _ _ _ _ _ e6
        refine ⟨?_, DS_g v1 (Fr_sA (S := [(1, 0, 34)]) (by decide) (Fr_refl _ _)) (by decide) (by decide) (by decide) (by decide) (by decide) (by decide) (by decide) (by decide), fun q => ⟨?_, v2 q⟩, fun i hi => ?_, Fr_trans y5 (Fr_trans (Fr_mono (by decide) fx) (Fr_mono (by decide) fr6)), Fr_trans (Fr_mono (by decide) fw) (Fr_mono (by decide) fz)⟩
        · rw [fw.1 0 29 (by decide), fA.1 0 29 (by decide)]; exact k29
        · apply Classical.byContradiction
          intro nq
          have e5 : h5 = h2 := by
            unfold f_X2_expect at ex
            rw [if_neg nq] at ex
            cases ex; rfl
          subst e5
          have e66 : h6 = h5 := by
            unfold f_X2_readNumber_0 at e6
            rw [if_neg nq] at e6
            cases e6; rfl
          rw [e66] at q
          exact nq q
        · rw [v3 i hi, fx.2.1 9 0 (by decide)]
      by_cases c20 : kd h = 20
      · rw [if_pos (gi_eq (by omega))] at e10
        rw [if_pos (gi_eq (by omega))] at b
        obtain ⟨h7', e7', e10⟩ := ob1_some e10
        obtain ⟨h8', e8', e10⟩ := ob1_some e10
        obtain ⟨h9', e9', e10⟩ := ob1_some e10
        obtain ⟨h10', e10', e10⟩ := ob1_some e10
        obtain rfl : h10' = h10 := Option.some.inj e10
        obtain ⟨g28, b28', b⟩ := ob1_some b
        obtain ⟨rb, g29, b29', b⟩ := ob2_some b
        obtain ⟨-, b⟩ := ob_if b
        obtain ⟨s0, s1, s2, s3, s4, s5⟩ := second 24 8 0 5 h7' h8' g28 (rb, g29) e7' b28' (by decide) (by decide) e8' b29' (by decide)
        replace s5 : Fr [(0, 0, 15), (0, 0, 16), (0, 0, 17), (0, 0, 18), (0, 0, 19), (0, 0, 20)] gA g29 := s5
        rw [s0, ecc] at b
        obtain ⟨g31, b31', b⟩ := ob1_some b
        obtain ⟨rc, g32, b32', b⟩ := ob2_some b
        obtain ⟨-, b⟩ := ob_if b
        generalize hgB : (sA g29 0 34 (upd (eA g29 0 34) (eI h 9 1).toInt.toNat rb)) = gB at b31'
        have s1 : DS B L P (at_ h) h8' gB := by rw [← hgB]; exact s1
        have fB : Fr [(1, 0, 34)] g29 gB := by rw [← hgB]; exact Fr_sA (by decide) (Fr_refl _ _)
        have B34 : eA gB 0 34 = upd (eA g29 0 34) (eI h 9 1).toInt.toNat rb := by rw [← hgB]; rfl
        have d9 := ds_expect s1 e9' b31' (by decide) (by decide)
        have fx9 := w_f_X2_expect _ _ _ e9'
        have fw9 : Fr S_X9_wants gB g31 := w_f_X9_wants _ _ _ b31'
        have hh8 : eI h8' 9 1 = eI h 9 1 := s4.1 9 1 (by decide)
        have hh9 : eI h9' 9 1 = eI h 9 1 := (fx9.1 9 1 (by decide)).trans hh8
        obtain ⟨v1, v2, v3⟩ := ds_number_0 d9 e10' b32' (by rw [hh9]; exact tx2) (by rw [hh9]; exact cc) (by decide) (by decide) (by decide)
        rw [hh9] at v2 v3
        replace v2 : eI h10' 5 0 = 0 → eA h10' 9 0 (4 * (eI h 9 1).toInt.toNat + 3) = rc := v2
        replace v3 : ∀ i : Nat, ¬ i = 4 * (eI h 9 1).toInt.toNat + 3 → eA h10' 9 0 i = eA h9' 9 0 i := v3
        have fz : Fr S_X9_number g31 g32 := w_f_X9_number _ _ _ _ b32'
        have fr10 := w_f_X2_readNumber_0 _ _ _ _ _ e10'
        have k31 : eI g31 0 29 = eI g 0 29 := by
          rw [fw9.1 0 29 (by decide), fB.1 0 29 (by decide), s5.1 0 29 (by decide), fA.1 0 29 (by decide)]; exact k29
        rw [k31, ecc] at b
        have e0 : ∀ i : Nat, ¬ i = 4 * (eI h 9 1).toInt.toNat + 3 → ¬ i = 4 * (eI h 9 1).toInt.toNat + 2 → eA h10' 9 0 i = eA h2 9 0 i := by
          intro i q1 q2
          rw [v3 i q1, fx9.2.1 9 0 (by decide), s3 i q2]
        have fall : Fr [(0, 0, 15), (0, 0, 16), (0, 0, 17), (0, 0, 18), (0, 0, 19), (0, 0, 20)] gB g32 := Fr_trans (Fr_mono (by decide) fw9) (Fr_mono (by decide) fz)
        refine deedend_0 (d := (eI h 9 1).toInt.toNat) (w := eI g 0 18) (x1 := r1) bg ⟨by omega, by omega⟩ cc dd (Fr_trans s4 (Fr_trans (Fr_mono (by decide) fx9) (Fr_mono (by decide) fr10))) (Fr_sA (by decide) (Fr_trans fm16 (Fr_trans (Fr_mono (by decide) y6) (Fr_trans (Fr_mono (by decide) fA) (Fr_trans (Fr_mono (by decide) s5) (Fr_trans (Fr_mono (by decide) fB) (Fr_mono (by decide) fall))))))) ?_ (fun c hc => ?_) (fun i hi => ?_) ?_ (by omega) (DS_g v1 (Fr_sA (S := [(1, 0, 35)]) (by decide) (Fr_refl _ _)) (by decide) (by decide) (by decide) (by decide) (by decide) (by decide) (by decide) (by decide)) (fun q => ?_) e b et
        · show eA g32 0 31 = _
          rw [fall.2.1 0 31 (by decide), fB.2.1 0 31 (by decide), s5.2.1 0 31 (by decide), fA.2.1 0 31 (by decide), y6.2.1 0 31 (by decide)]; exact M31
        · show eA g32 0 32 c = _ ∧ eA g32 0 33 c = _ ∧ eA g32 0 34 c = _ ∧ upd (eA g32 0 35) _ rc c = _
          rw [fall.2.1 0 32 (by decide), fB.2.1 0 32 (by decide), s5.2.1 0 32 (by decide), fA.2.1 0 32 (by decide), y6.2.1 0 32 (by decide), fall.2.1 0 33 (by decide), fB.2.1 0 33 (by decide), s5.2.1 0 33 (by decide), A33, y6.2.1 0 33 (by decide), fall.2.1 0 34 (by decide), B34, s5.2.1 0 34 (by decide), fA.2.1 0 34 (by decide), y6.2.1 0 34 (by decide), fall.2.1 0 35 (by decide), fB.2.1 0 35 (by decide), s5.2.1 0 35 (by decide), fA.2.1 0 35 (by decide), y6.2.1 0 35 (by decide), M32, M33, M34, M35]
          unfold upd
          rw [if_neg hc, if_neg hc, if_neg hc, if_neg hc, if_neg hc, if_neg hc, if_neg hc]
          exact ⟨rfl, rfl, rfl, rfl⟩
        · rw [e0 i (by omega) (by omega)]; exact y3 i hi
        · rw [e0 _ (by omega) (by omega)]; exact y4
        · have p9 : eI h8' 5 0 = 0 := by
            apply Classical.byContradiction
            intro nq
            have e5 : h9' = h8' := by
              have ex := e9'
              unfold f_X2_expect at ex
              rw [if_neg nq] at ex
              cases ex; rfl
            have e66 : h10' = h9' := by
              have ey := e10'
              unfold f_X2_readNumber_0 at ey
              rw [if_neg (by rw [e5]; exact nq)] at ey
              cases ey; rfl
            rw [e66, e5] at q
            exact nq q
          have p2 := s2 p9
          refine ⟨?_, fun _ => ?_, fun _ => ?_⟩
          · show _ = eA g32 0 33 _
            rw [e0 _ (by omega) (by omega), y2 p2.1, fall.2.1 0 33 (by decide), fB.2.1 0 33 (by decide), s5.2.1 0 33 (by decide), A33]
            unfold upd
            rw [if_pos rfl]
          · show _ = eA g32 0 34 _
            rw [v3 _ (by omega), fx9.2.1 9 0 (by decide), p2.2, fall.2.1 0 34 (by decide), B34]
            unfold upd
            rw [if_pos rfl]
          · show _ = upd (eA g32 0 35) _ rc _
            rw [v2 q]
            unfold upd
            rw [if_pos rfl]
      · rw [if_neg (fun q => by have := gi_of_eq q; omega), if_pos (gi_eq (by omega))] at e10
        rw [if_neg (fun q => by have := gi_of_eq q; omega), if_pos (gi_eq (by omega))] at b
        obtain ⟨h5', e5', e10⟩ := ob1_some e10
        obtain ⟨h6', e6', e10⟩ := ob1_some e10
        obtain rfl : h6' = h10 := Option.some.inj e10
        obtain ⟨g25, b25', b⟩ := ob1_some b
        obtain ⟨rb, g26, b26', b⟩ := ob2_some b
        obtain ⟨-, b⟩ := ob_if b
        obtain ⟨s0, s1, s2, s3, s4, s5⟩ := second 25 9 0 3 h5' h6' g25 (rb, g26) e5' b25' (by decide) (by decide) e6' b26' (by decide)
        replace s5 : Fr [(0, 0, 15), (0, 0, 16), (0, 0, 17), (0, 0, 18), (0, 0, 19), (0, 0, 20)] gA g26 := s5
        rw [s0, ecc] at b
        refine deedend_0 (d := (eI h 9 1).toInt.toNat) (w := eI g 0 18) (x1 := r1) bg ⟨by omega, by omega⟩ cc dd s4 (Fr_sA (by decide) (Fr_trans fm16 (Fr_trans (Fr_mono (by decide) y6) (Fr_trans (Fr_mono (by decide) fA) (Fr_mono (by decide) s5))))) ?_ (fun c hc => ?_) (fun i hi => ?_) ?_ (by omega) s1 (fun q => ?_) e b et
        · show eA g26 0 31 = _
          rw [s5.2.1 0 31 (by decide), fA.2.1 0 31 (by decide), y6.2.1 0 31 (by decide)]; exact M31
        · show eA g26 0 32 c = _ ∧ eA g26 0 33 c = _ ∧ upd (eA g26 0 34) _ rb c = _ ∧ eA g26 0 35 c = _
          rw [s5.2.1 0 32 (by decide), fA.2.1 0 32 (by decide), y6.2.1 0 32 (by decide), s5.2.1 0 33 (by decide), A33, y6.2.1 0 33 (by decide), s5.2.1 0 34 (by decide), fA.2.1 0 34 (by decide), y6.2.1 0 34 (by decide), s5.2.1 0 35 (by decide), fA.2.1 0 35 (by decide), y6.2.1 0 35 (by decide), M32, M33, M34, M35]
          unfold upd
          rw [if_neg hc, if_neg hc, if_neg hc, if_neg hc, if_neg hc, if_neg hc]
          exact ⟨rfl, rfl, rfl, rfl⟩
        · rw [s3 i (by omega)]; exact y3 i hi
        · rw [s3 _ (by omega)]; exact y4
        · have p2 := s2 q
          refine ⟨?_, fun _ => ?_, fun w4 => by omega⟩
          · show _ = eA g26 0 33 _
            rw [s3 _ (by omega), y2 p2.1, s5.2.1 0 33 (by decide), A33]
            unfold upd
            rw [if_pos rfl]
          · show _ = upd (eA g26 0 34) _ rb _
            rw [p2.2]
            unfold upd
            rw [if_pos rfl]
theorem clause_0 {B : Int → Int} {L : Int} {P : Nat → Int} {h h' g : HS} {N : Nat} {r : Int32 × HS} (bg : BEG B L P 9 h g) (nz : ¬ kd h = 0) (e : f_X2_readClause_0 h = some h') (et : f_X9_text_74 N g = some r) : BADC r h' g ∨ NXT_0 B L P r h h' g := by
  have z0 : (0 : Int32).toInt = 0 := rfl
  have z1 : (1 : Int32).toInt = 1 := rfl
  have z3 : (3 : Int32).toInt = 3 := rfl
  have z4 : (4 : Int32).toInt = 4 := rfl
  have z7 : (7 : Int32).toInt = 7 := rfl
  have z16 : (16 : Int32).toInt = 16 := rfl
  have z23 : (23 : Int32).toInt = 23 := rfl
  have z24 : (24 : Int32).toInt = 24 := rfl
  obtain ⟨bt, bf, bw, b21, b22, b25, b28, bpl, tx1, ⟨tx2, tx3⟩, tx4, tx5, tx6, tx7, tx8⟩ := id bg
  have tk := TT_tk bt
  have nso : ¬ (eI g 0 17).toInt = 0 := by
    rcases tk with u | u | u | u | u
    · omega
    · omega
    · omega
    · omega
    · omega
  obtain ⟨N1, g1, b, et⟩ := (mp_turn et bw).2.2.2.2 b28 nso
  unfold f_X2_readClause_0 f_X2_readClause_0_158 at e
  obtain ⟨r1, h1, e1, e⟩ := ob2_some e
  obtain ⟨q1, q2⟩ := TT_kind bt e1
  obtain rfl : h = h1 := q1.symm
  replace q2 : r1.toInt = kd h := q2
  have kb := TK_nn tk
  have hw := fb_subI (x := r1) (y := 16) (by omega) (by omega)
  have fk : Fr [(0, 5, 2)] h (sI h 5 2 (r1 - 16)) := Fr_sI (by decide) (Fr_refl _ _)
  have tK := TT_h bt fk (by decide) (by decide) (by decide) (by decide) (by decide)
  have fgk : Fr [(0, 0, 30)] g (sI g 0 30 (eI g 0 18)) := Fr_sI (by decide) (Fr_refl _ _)
  have tKK := TT_g tK fgk (by decide) (by decide) (by decide) (by decide) (by decide) (by decide)
  unfold f_X9_clause at b
  by_cases kk : 16 ≤ kd h ∧ kd h ≤ 23
  · have so : (eI g 0 17).toInt = 1 ∧ (eI g 0 18).toInt = kd h - 16 := by
      rcases tk with u | u | u | u | u
      · omega
      · omega
      · omega
      · omega
      · have := u.2; unfold SG at this; omega
    rw [if_neg (fun q => by have := gi_of_lt q; omega), if_pos (gi_le (by omega))] at e
    rw [if_pos (gi_eq (by omega)), if_pos (gi_le (by omega))] at b
    obtain ⟨r4, h4, e4, e⟩ := ob2_some e
    obtain ⟨u1, u2⟩ := cp_hasLaw_0 e4 (by omega)
    replace u1 : h4 = sI h 5 2 (r1 - 16) := u1
    subst u1
    replace u2 : (r4 = 0 ∧ (4 ≤ (r1 - 16).toInt ∨ eA h 9 3 (r1 - 16).toInt.toNat = -1)) ∨ (r4 = 1 ∧ (r1 - 16).toInt < 4 ∧ ¬ eA h 9 3 (r1 - 16).toInt.toNat = -1) := u2
    -- the reference's own look
    have after : f_X9_clause_58 (sI g 0 30 (eI g 0 18)) = some g1 → (4 ≤ (r1 - 16).toInt ∨ eA h 9 3 (r1 - 16).toInt.toNat = -1) → r4 = 0 → BADC r h' g ∨ NXT_0 B L P r h h' g := by
      intro b hno r40
      rw [if_pos r40] at e
      unfold f_X9_clause_58 at b
      by_cases c24 : (eI h 9 1).toInt < 24
      · rw [if_pos (show eI (sI h 5 2 (r1 - 16)) 9 1 < 24 from gi_lt (by show (eI h 9 1).toInt < _; omega))] at e
        rw [if_neg (show ¬ eI (sI g 0 30 (eI g 0 18)) 0 29 = 24 from fun q => by have q := gi_of_eq q; have q : (eI g 0 29).toInt = (24 : Int32).toInt := q; omega)] at b
        obtain ⟨h7, e7, e⟩ := ob1_some e
        obtain ⟨h8, e8, e⟩ := ob1_some e
        replace e7 : f_X6_setClause_0 (sI h 5 2 (r1 - 16)) (eI h 9 1) 0 r1 = some h7 := e7
        have h852 : eI h8 5 2 = r1 - 16 := by
          have w1 := w_f_X7_advance _ _ e8
          have w2 := w_f_X6_setClause_0 _ _ _ _ _ e7
          rw [w1.1 5 2 (by decide), w2.1 5 2 (by decide)]; rfl
        by_cases c4 : 4 ≤ (r1 - 16).toInt
        · rw [h852, if_pos (gi_le (by omega))] at e
          obtain ⟨h10, e10, e⟩ := ob1_some e
          exact deed_0 bg q2 (by omega) (by omega) c24 e7 e8 e10 e b et
        · rw [if_neg (by rw [h852]; exact fun q => c4 (by have := gi_of_le q; omega))] at e
          obtain ⟨h11, e11, e⟩ := ob1_some e
          refine law_0 bg q2 (by omega) (by omega) ?_ c24 e7 e8 e11 e b et
          rw [← show (r1 - 16).toInt = kd h - 16 by omega]
          rcases hno with q | q
          · exact absurd q c4
          · exact q
      · rw [if_neg (show ¬ eI (sI h 5 2 (r1 - 16)) 9 1 < 24 from fun q => by have q := gi_of_lt q; have q : (eI h 9 1).toInt < (24 : Int32).toInt := q; omega)] at e
        rw [if_pos (show eI (sI g 0 30 (eI g 0 18)) 0 29 = 24 from gi_eq (by show (eI g 0 29).toInt = _; omega))] at b
        obtain ⟨h13, e13, e⟩ := ob1_some e
        cases e
        obtain ⟨g9, b9, b⟩ := ob1_some b
        obtain ⟨rfl, rfl⟩ := TT_fail tKK bf bw e13 b9
        unfold f_X9_clause_73 at b
        rw [if_neg (show ¬ eI (sI (sI (sI g 0 30 (eI g 0 18)) 0 19 6) 0 20 (eI (sI g 0 30 (eI g 0 18)) 0 16)) 0 19 ≤ 0 from (by decide : ¬ (6 : Int32) ≤ 0))] at b
        cases b
        exact Or.inl ⟨(by decide : ¬ (6 : Int32) = 0), N1, _, et, rfl, rfl, Fr_sI (by decide) (Fr_sI (by decide) (Fr_mono (by decide) fgk)), (by decide : 0 < (6 : Int32).toInt)⟩
    by_cases c3 : (3 : Int32) < eI g 0 18
    · rw [if_pos c3] at b
      have d3 := gi_of_lt c3
      rcases u2 with ⟨r40, u2⟩ | ⟨r41, u2, u3⟩
      · exact after b u2 r40
      · omega
    · rw [if_neg c3] at b
      have d3 := gi_of_nlt c3
      obtain ⟨rt, gt, bt', b⟩ := ob2_some b
      unfold f_X9_wasTold at bt'
      obtain ⟨v1, v2⟩ := mp_told _ (sI g 0 30 (eI g 0 18)) 0 0 (rt, gt) bt' (by decide) (by show (0 : Int32).toInt ≤ (eI g 0 29).toInt; omega) (by show (eI g 0 29).toInt ≤ 24; omega) (Or.inl ⟨rfl, fun c hc => by omega⟩)
      replace v1 : gt = sI g 0 30 (eI g 0 18) := v1
      subst v1
      replace v2 : (rt = 0 ∧ ∀ c : Nat, (c : Int) < (eI g 0 29).toInt → ¬ eA g 0 31 c = eI g 0 18) ∨ (rt = 1 ∧ ∃ c : Nat, (c : Int) < (eI g 0 29).toInt ∧ eA g 0 31 c = eI g 0 18) := v2
      have look := tx8 (r1 - 16).toInt.toNat (by omega)
      rcases v2 with ⟨rt0, v2⟩ | ⟨rt1, c, v2, v3⟩
      · rw [if_pos rt0] at b
        rcases u2 with ⟨r40, u2⟩ | ⟨r41, u2, u3⟩
        · exact after b u2 r40
        · exfalso
          rcases look with ⟨w1, -⟩ | ⟨-, c, w1, w2⟩
          · exact u3 w1
          · exact v2 c (by omega) (gi_eq (by omega))
      · rw [if_neg (by rw [rt1]; decide)] at b
        have hn : ¬ eA h 9 3 (r1 - 16).toInt.toNat = -1 := by
          intro q
          rcases look with ⟨-, w1⟩ | ⟨w1, -⟩
          · exact w1 c (by omega) (by rw [v3]; omega)
          · exact w1 q
        rcases u2 with ⟨r40, u2⟩ | ⟨r41, u2, u3⟩
        · exfalso
          rcases u2 with u2 | u2
          · omega
          · exact hn u2
        · rw [if_neg (by rw [r41]; decide)] at e
          obtain ⟨h14, e14, e⟩ := ob1_some e
          cases e
          obtain ⟨g6, b6, b⟩ := ob1_some b
          obtain ⟨rfl, rfl⟩ := TT_fail tKK bf bw e14 b6
          unfold f_X9_clause_73 at b
          rw [if_neg (show ¬ eI (sI (sI (sI g 0 30 (eI g 0 18)) 0 19 4) 0 20 (eI (sI g 0 30 (eI g 0 18)) 0 16)) 0 19 ≤ 0 from (by decide : ¬ (4 : Int32) ≤ 0))] at b
          cases b
          exact Or.inl ⟨(by decide : ¬ (4 : Int32) = 0), N1, _, et, rfl, rfl, Fr_sI (by decide) (Fr_sI (by decide) (Fr_mono (by decide) fgk)), (by decide : 0 < (4 : Int32).toInt)⟩
  · have e25 : f_X2_readClause_0_25 (sI h 5 2 (r1 - 16)) = some h' := by
      by_cases c16 : r1 < 16
      · rw [if_pos c16] at e; exact e
      · rw [if_neg c16] at e
        have d16 := gi_of_nlt c16
        rw [if_neg (fun q => by have := gi_of_le q; omega)] at e
        exact e
    have b17 : f_X9_clause_17 g = some g1 := by
      by_cases s1 : eI g 0 17 = 1
      · rw [if_pos s1] at b
        have d1 := gi_of_eq s1
        rw [if_neg (fun q => by
          have := gi_of_le q
          rcases tk with u | u | u | u | u
          · omega
          · omega
          · omega
          · omega
          · omega)] at b
        exact b
      · rw [if_neg s1] at b; exact b
    unfold f_X2_readClause_0_25 f_X2_readClause_0_158 at e25
    obtain ⟨h15, e15, e25⟩ := ob1_some e25
    cases e25
    unfold f_X9_clause_17 at b17
    obtain ⟨g7, b7, b17⟩ := ob1_some b17
    cases b17
    obtain ⟨rfl, rfl⟩ := TT_fail tK bf bw e15 b7
    exact Or.inl ⟨(by decide : ¬ (1 : Int32) = 0), N1, _, et, rfl, rfl, Fr_sI (by decide) (Fr_sI (by decide) (Fr_refl _ _)), (by decide : 0 < (1 : Int32).toInt)⟩
theorem parse_0 {B : Int → Int} {L : Int} {P : Nat → Int} {h' : HS} {r : Int32 × HS} : ∀ (k : Nat) (h g : HS) (x3 : Int32) (N : Nat), f_X2_parse_0_16 k h x3 = some h' → BEG B L P 9 h g → x3.toInt = (eI h 9 1).toInt → f_X9_text_74 N g = some r → BADC r h' g ∨ (eI h' 5 0 = 0 ∧ ∃ g' : HS, f_X9_text_167 g' = some r ∧ BEG B L P 9 h' g' ∧ Fr SPC g g') := by
  have z0 : (0 : Int32).toInt = 0 := rfl
  have z1 : (1 : Int32).toInt = 1 := rfl
  have z4 : (4 : Int32).toInt = 4 := rfl
  have z24 : (24 : Int32).toInt = 24 := rfl
  intro k
  induction k with
  | zero => intro h g x3 N e; cases e
  | succ k ih =>
    intro h g x3 N e bg hx et
    obtain ⟨bt, bf, bw, b21, b22, b25, b28, bpl, tx1, ⟨tx2, tx3⟩, tx4⟩ := id bg
    rw [f_X2_parse_0_16_s] at e
    unfold f_X2_parse_0_48 at e
    rw [if_neg (fun q => by have := gi_of_lt q; omega), if_pos bf] at e
    obtain ⟨r4, h4, e4, e⟩ := ob2_some e
    obtain ⟨q1, q2⟩ := TT_kind bt e4
    obtain rfl : h = h4 := q1.symm
    replace q2 : r4.toInt = kd h := q2
    by_cases c : kd h = 0
    · rw [if_pos (gi_eq (by omega))] at e
      cases e
      refine Or.inr ⟨bf, g, ?_, bg, Fr_refl _ _⟩
      have so : (eI g 0 17).toInt = 0 := by
        have tk := TT_tk bt
        rcases tk with u | u | u | u | u
        · omega
        · omega
        · omega
        · omega
        · have := u.2; unfold SG at this; omega
      cases N with
      | zero => cases et
      | succ N =>
        rw [f_X9_text_74_s, if_pos bw, if_pos (gi_eq (by omega)), if_pos (gi_eq (by omega))] at et
        exact et
    · rw [if_neg (fun q => by have := gi_of_eq q; omega)] at e
      obtain ⟨h6, e6, e⟩ := ob1_some e
      rcases clause_0 bg c e6 et with bad | ⟨N2, g2, et2, bg2, hc2, f2⟩
      · have eh : h' = h6 := by
          cases k with
          | zero => cases e
          | succ k =>
            rw [f_X2_parse_0_16_s] at e
            unfold f_X2_parse_0_48 at e
            by_cases c5 : (24 : Int32) < x3 + 1
            · rw [if_pos c5] at e; cases e; rfl
            · rw [if_neg c5, if_neg bad.1] at e; cases e; rfl
        rw [eh]
        exact Or.inl bad
      · have a3 := fb_addI (x := x3) (y := 1) (by omega) (by omega)
        rcases ih h6 g2 (x3 + 1) N2 e bg2 (by omega) et2 with ⟨y1, N3, g3, y2, y3, y4, y5, y6⟩ | ⟨y1, g3, y2, y3, y4⟩
        · exact Or.inl ⟨y1, N3, g3, y2, y3, y4, Fr_trans f2 y5, y6⟩
        · exact Or.inr ⟨y1, g3, y2, y3, Fr_trans f2 y4⟩
