/-! text 0: a clause of a law -/
theorem cp_setClause_0 {h h' : HS} {c f v : Int32} (e : f_X6_setClause_0 h c f v = some h') (c0 : 0 ≤ c.toInt) (c1 : c.toInt < 24) (f0 : 0 ≤ f.toInt) (f1 : f.toInt < 4) : h' = sA h 9 0 (upd (eA h 9 0) (4 * c.toInt.toNat + f.toInt.toNat) v) := by
  have z0 : (0 : Int32).toInt = 0 := rfl
  have z24 : (24 : Int32).toInt = 24 := rfl
  have z4 : (4 : Int32).toInt = 4 := rfl
  unfold f_X6_setClause_0 f_X6_setClause_0_30 at e
  rw [if_neg (fun q => by have := gi_of_lt q; omega), if_neg (fun q => by have := gi_of_le q; omega), if_neg (fun q => by have := gi_of_lt q; omega), if_neg (fun q => by have := gi_of_le q; omega)] at e
  obtain ⟨-, e⟩ := ob_if e
  cases e
  have a1 := fb_mulK (x := c) (y := 4) (k := 4) rfl (by omega) (by omega)
  have a2 := fb_addI (x := c * 4) (y := f) (by omega) (by omega)
  have ix : (c * 4 + f).toNatClampNeg = 4 * c.toInt.toNat + f.toInt.toNat := by rw [Int32.toNatClampNeg]; omega
  rw [ix]
theorem cp_hasLaw_0 {h : HS} {w : Int32} {z : Int32 × HS} (e : f_X6_hasLaw_0 h w = some z) (w0 : 0 ≤ w.toInt) : z.2 = h ∧ ((z.1 = 0 ∧ (4 ≤ w.toInt ∨ eA h 9 3 w.toInt.toNat = -1)) ∨ (z.1 = 1 ∧ w.toInt < 4 ∧ ¬ eA h 9 3 w.toInt.toNat = -1)) := by
  have z0 : (0 : Int32).toInt = 0 := rfl
  have z4 : (4 : Int32).toInt = 4 := rfl
  unfold f_X6_hasLaw_0 f_X6_hasLaw_0_23 f_X6_hasLaw_0_24 at e
  rw [if_neg (fun q => by have := gi_of_lt q; omega)] at e
  by_cases c : (4 : Int32) ≤ w
  · rw [if_pos c] at e
    cases e
    exact ⟨rfl, Or.inl ⟨rfl, Or.inl (by have := gi_of_le c; omega)⟩⟩
  · rw [if_neg c] at e
    have d := gi_of_nle c
    obtain ⟨-, e⟩ := ob_if e
    by_cases c2 : eA h 9 3 w.toNatClampNeg = -1
    · rw [if_pos c2] at e
      cases e
      exact ⟨rfl, Or.inl ⟨rfl, Or.inr c2⟩⟩
    · rw [if_neg c2] at e
      cases e
      exact ⟨rfl, Or.inr ⟨rfl, by omega, c2⟩⟩
theorem cp_beginLaw_0 {h h' : HS} {w : Int32} (e : f_X6_beginLaw_0 h w = some h') (w0 : 0 ≤ w.toInt) (w1 : w.toInt < 4) : h' = sA h 9 3 (upd (eA h 9 3) w.toInt.toNat (eI h 9 5)) := by
  have z0 : (0 : Int32).toInt = 0 := rfl
  have z4 : (4 : Int32).toInt = 4 := rfl
  unfold f_X6_beginLaw_0 f_X6_beginLaw_0_19 at e
  rw [if_neg (fun q => by have := gi_of_lt q; omega), if_neg (fun q => by have := gi_of_le q; omega)] at e
  obtain ⟨-, e⟩ := ob_if e
  cases e; rfl
theorem cp_closeLaw_0 {h h' : HS} {w : Int32} (e : f_X6_closeLaw_0 h w = some h') (w0 : 0 ≤ w.toInt) (w1 : w.toInt < 4) : h' = sA h 9 4 (upd (eA h 9 4) w.toInt.toNat (eI h 9 5)) := by
  have z0 : (0 : Int32).toInt = 0 := rfl
  have z4 : (4 : Int32).toInt = 4 := rfl
  unfold f_X6_closeLaw_0 f_X6_closeLaw_0_19 at e
  rw [if_neg (fun q => by have := gi_of_lt q; omega), if_neg (fun q => by have := gi_of_le q; omega)] at e
  obtain ⟨-, e⟩ := ob_if e
  cases e; rfl
def NXT_0 (B : Int → Int) (L : Int) (P : Nat → Int) (r : Int32 × HS) (h h' g : HS) : Prop := ∃ (N : Nat) (g' : HS), f_X9_text_74 N g' = some r ∧ BEG B L P 9 h' g' ∧ (eI h' 9 1).toInt = (eI h 9 1).toInt + 1 ∧ Fr SPC g g'
/-- the law is read: what closes it -/
theorem lawend_0 {B : Int → Int} {L : Int} {P : Nat → Int} {d : Nat} {h h' g g1 h17 g2 : HS} {h11 : HS} {ps : List Int} {r : Int32 × HS} {w x1 : Int32} (bg : BEG B L P 9 h g) (hw : 0 ≤ w.toInt ∧ w.toInt < 4) (no : eA h 9 3 w.toInt.toNat = -1) (cc : (eI h 9 1).toInt < 24) (hd : (d : Int) = (eI h 9 1).toInt)
    (q0 : eA h11 9 0 = upd (eA h 9 0) (4 * d) x1) (hx1 : x1.toInt = 16 + w.toInt) (q3 : eA h11 9 3 = upd (eA h 9 3) w.toInt.toNat (eI h 9 5)) (q4 : eA h11 9 4 = eA h 9 4) (q5 : eI h11 9 5 = eI h 9 5) (q2 : eA h11 9 2 = eA h 9 2) (q1 : eI h11 9 1 = eI h 9 1) (qa : at_ h11 = at_ h + 1) (q52 : eI h11 5 2 = w)
    (m31 : eA g1 0 31 = upd (eA g 0 31) d w) (m32 : eA g1 0 32 = upd (eA g 0 32) d (eI g 0 36)) (m33 : eA g1 0 33 = upd (eA g 0 33) d (-1)) (m34 : eA g1 0 34 = upd (eA g 0 34) d (-1)) (m35 : eA g1 0 35 = upd (eA g 0 35) d (-1)) (m36 : eI g1 0 36 = eI g 0 36) (m37 : eA g1 0 37 = eA g 0 37) (m38 : eA g1 0 38 = eA g 0 38) (m29 : eI g1 0 29 = eI g 0 29) (m21 : (eI g1 0 21).toInt = 0) (m25 : (eI g1 0 25).toInt = 0) (m20 : eI g1 0 20 = -1) (q51 : eI h11 5 1 = -1) (fg1 : Fr SPC g g1)
    (R : RES B L P 9 d h11 g1 h17 g2 ps) (fh : Fr S_read_0 h11 h17) (rks : ∀ p ∈ ps, (1 : Int32).toInt ≤ rnk p) (fin : (kd h17 = 15 ∧ ∃ (N3 : Nat) (g3 : HS), f_X9_clauseIsOver g2 = some g3 ∧ f_X9_text_74 N3 g3 = some r) ∨ (¬ kd h17 = 15 ∧ ∃ (N3 : Nat) (g3 : HS), f_X9_errs g2 1 = some g3 ∧ f_X9_text_74 N3 g3 = some r))
    {h18 : HS} (e18 : f_X6_closeLaw_0 h17 (eI h17 5 2) = some h18) (e : f_X2_readClause_0_141 h18 = some h') : BADC r h' g ∨ NXT_0 B L P r h h' g := by
  have z1 : (1 : Int32).toInt = 1 := rfl
  have z15 : (15 : Int32).toInt = 15 := rfl
  have z408 : (408 : Int32).toInt = 408 := rfl
  obtain ⟨x1', x2, x3, ⟨x4, x5, x6, x6'⟩, ⟨x7, x8, x8'⟩, x9, x10, x11⟩ := id R
  obtain ⟨bt, bf, bw, b21, b22, b25, b28, bpl, tx1, ⟨tx2, tx3⟩, tx4, tx5, tx6, tx7, tx8⟩ := id bg
  have h52 : eI h17 5 2 = w := (fh.1 5 2 (by decide)).trans q52
  rw [h52] at e18
  have eh18 := cp_closeLaw_0 e18 hw.1 hw.2
  have f18 : Fr [(1, 9, 4)] h17 h18 := by rw [eh18]; exact Fr_sA (by decide) (Fr_refl _ _)
  have t18 := TT_h x1' f18 (by decide) (by decide) (by decide) (by decide) (by decide)
  have k18 : kd h18 = kd h17 := by rw [eh18]; rfl
  have a18 : at_ h18 = at_ h17 := by rw [eh18]; rfl
  have p18 : eI h18 5 0 = 0 := (f18.1 5 0 (by decide)).trans x2
  unfold f_X2_readClause_0_141 f_X2_readClause_0_158 at e
  obtain ⟨h16, e16, e⟩ := ob1_some e
  have eh' : h' = sI h16 9 1 (eI h16 9 1 + 1) := (Option.some.inj e).symm
  have f' : Fr [(0, 9, 1)] h16 h' := by rw [eh']; exact Fr_sI (by decide) (Fr_refl _ _)
  unfold f_X2_expect f_X2_expect_29 at e16
  rw [if_pos p18] at e16
  obtain ⟨rr, hh, e16a, e16⟩ := ob2_some e16
  obtain ⟨u1, u2⟩ := TT_kind t18 e16a
  obtain rfl : h18 = hh := u1.symm
  replace u2 : rr.toInt = kd h18 := u2
  rcases fin with ⟨k15, N3, g3, b3, et3⟩ | ⟨k15, N3, g3, b3, et3⟩
  · rw [if_pos (gi_eq (by omega))] at e16
    obtain ⟨h5, e5, e16⟩ := ob1_some e16
    obtain rfl : h5 = h16 := Option.some.inj e16
    obtain ⟨ga, gb, gc, ba, bb, bc, eg3⟩ := mp_over b3
    subst eg3
    unfold f_X9_works at ba
    obtain ⟨n1, cca, n5⟩ := RES_flush R (by omega) rks (Or.inl (by omega)) ba
    obtain ⟨⟨v1, v2⟩, egb⟩ := mp_emits bb
    replace v1 : 0 ≤ (eI ga 0 36).toInt := v1
    replace v2 : (eI ga 0 36).toInt < 400 := v2
    replace egb : gb = sI (sA (sA (sI ga 0 22 0) 0 37 (upd (eA ga 0 37) (eI ga 0 36).toInt.toNat 408)) 0 38 (upd (eA ga 0 38) (eI ga 0 36).toInt.toNat 0)) 0 36 (eI ga 0 36 + 1) := egb
    have fB : Fr [(0, 0, 25), (0, 0, 36), (1, 0, 37), (1, 0, 38), (0, 0, 22), (0, 0, 29)] g2 (sI gb 0 29 (eI gb 0 29 + 1)) := by
      rw [egb]
      exact Fr_sI (by decide) (Fr_sI (by decide) (Fr_sA (by decide) (Fr_sA (by decide) (Fr_sI (by decide) (Fr_mono (by decide) n5)))))
    obtain ⟨t5, eh5, ea5⟩ := TT_adv t18 (by omega) e5 fB (by decide) (by decide) (by decide) bc
    have fn := w_f_X9_next _ _ bc
    have f5 : Fr [(0, 4, 4)] h18 h5 := by rw [eh5]; exact Fr_sI (by decide) (Fr_refl _ _)
    have fC : Fr [(0, 0, 28)] gc (sI gc 0 28 4) := Fr_sI (by decide) (Fr_refl _ _)
    have hb29 : eI gb 0 29 = eI g 0 29 := by
      rw [egb]
      show eI ga 0 29 = _
      rw [n5.1 0 29 (by decide), x11.1.1 0 29 (by decide), m29]
    have G29 : eI (sI gc 0 28 4) 0 29 = eI g 0 29 + 1 := by
      rw [fC.1 0 29 (by decide), fn.1 0 29 (by decide)]
      show eI gb 0 29 + 1 = _
      rw [hb29]
    have G36 : eI (sI gc 0 28 4) 0 36 = eI ga 0 36 + 1 := by
      rw [fC.1 0 36 (by decide), fn.1 0 36 (by decide), egb]; rfl
    have G37 : eA (sI gc 0 28 4) 0 37 = upd (eA ga 0 37) (eI ga 0 36).toInt.toNat 408 := by
      rw [fC.2.1 0 37 (by decide), fn.2.1 0 37 (by decide), egb]; rfl
    have G38 : eA (sI gc 0 28 4) 0 38 = upd (eA ga 0 38) (eI ga 0 36).toInt.toNat 0 := by
      rw [fC.2.1 0 38 (by decide), fn.2.1 0 38 (by decide), egb]; rfl
    have gkeep : ∀ k : Nat, (1, 0, k) ∉ SPE → eA (sI gc 0 28 4) 0 k = eA g1 0 k := by
      intro k hk
      have hk1 : (1, 0, k) ∉ ([(0, 0, 28)] : CL) := by intro q; simp at q
      have hk2 : (1, 0, k) ∉ S_X9_next := by intro q; simp [S_X9_next] at q
      have hk3 : (1, 0, k) ∉ ([(0, 0, 25), (0, 0, 36), (1, 0, 37), (1, 0, 38), (0, 0, 22), (0, 0, 29)] : CL) := by
        intro q
        apply hk
        simp at q
        rcases q with q | q
        · subst q; decide
        · subst q; decide
      rw [fC.2.1 0 k hk1, fn.2.1 0 k hk2, fB.2.1 0 k hk3, x11.1.2.1 0 k (fun q => hk ((by decide : ∀ x ∈ SPR, x ∈ SPE) _ q))]
    have H1 : eI h' 9 1 = eI h 9 1 + 1 := by
      rw [eh']
      show eI h5 9 1 + 1 = _
      rw [f5.1 9 1 (by decide), f18.1 9 1 (by decide), fh.1 9 1 (by decide), q1]
    have H5 : eI h' 9 5 = eI h17 9 5 := by
      rw [f'.1 9 5 (by decide), f5.1 9 5 (by decide), f18.1 9 5 (by decide)]
    have H0 : eA h' 9 0 = upd (eA h 9 0) (4 * d) x1 := by
      rw [f'.2.1 9 0 (by decide), f5.2.1 9 0 (by decide), f18.2.1 9 0 (by decide), fh.2.1 9 0 (by decide), q0]
    have H2 : eA h' 9 2 = eA h17 9 2 := by
      rw [f'.2.1 9 2 (by decide), f5.2.1 9 2 (by decide), f18.2.1 9 2 (by decide)]
    have H3 : eA h' 9 3 = upd (eA h 9 3) w.toInt.toNat (eI h 9 5) := by
      rw [f'.2.1 9 3 (by decide), f5.2.1 9 3 (by decide), f18.2.1 9 3 (by decide), fh.2.1 9 3 (by decide), q3]
    have H4 : eA h' 9 4 = upd (eA h 9 4) w.toInt.toNat (eI h17 9 5) := by
      rw [f'.2.1 9 4 (by decide), f5.2.1 9 4 (by decide), eh18]
      show upd (eA h17 9 4) w.toInt.toNat (eI h17 9 5) = _
      rw [fh.2.1 9 4 (by decide), q4]
    have Ha : at_ h' = at_ h17 + 1 := by
      rw [← a18, ← ea5, eh']; rfl
    obtain ⟨c0, c1, c2, c3, c4, c5, c6, c7⟩ := cca
    have l0 : (([] : List Int).length : Int) = 0 := rfl
    rw [q5] at c0 c1 c2 c4 c6 x10
    rw [q2] at c4
    rw [m36] at c1 c5
    have z1a := fb_addI (x := eI h 9 1) (y := 1) (by omega) (by omega)
    have z2a := fb_addI (x := eI g 0 29) (y := 1) (by omega) (by omega)
    have z3a := fb_addI (x := eI ga 0 36) (y := 1) (by omega) (by omega)
    have T5 : TT B L P h' (sI gc 0 28 4) := TT_h (TT_g t5 fC (by decide) (by decide) (by decide) (by decide) (by decide) (by decide)) f' (by decide) (by decide) (by decide) (by decide) (by decide)
    have tat := TT_at t18
    refine Or.inr ⟨N3, _, et3, ⟨T5, ?_, ?_, ?_, ?_, ?_, rfl, ⟨by rw [f'.1 5 1 (by decide), f5.1 5 1 (by decide), f18.1 5 1 (by decide), x11.2]; exact q51, by rw [fC.1 0 20 (by decide), fn.1 0 20 (by decide), fB.1 0 20 (by decide), x11.1.1 0 20 (by decide)]; exact m20⟩, ?_, ⟨?_, ?_⟩, ?_, ?_, ?_, ?_, ?_⟩, by rw [H1]; omega, Fr_trans fg1 (Fr_trans (Fr_mono (by decide) x11.1) (Fr_trans (Fr_mono (by decide) fB) (Fr_trans (Fr_mono (by decide) fn) (Fr_mono (by decide) fC))))⟩
    · rw [f'.1 5 0 (by decide), f5.1 5 0 (by decide)]; exact p18
    · rw [fC.1 0 19 (by decide), fn.1 0 19 (by decide), fB.1 0 19 (by decide)]; exact x3
    · rw [fC.1 0 21 (by decide), fn.1 0 21 (by decide), fB.1 0 21 (by decide), x5]; exact m21
    · rw [fC.1 0 22 (by decide), fn.1 0 22 (by decide), egb]; rfl
    · rw [fC.1 0 25 (by decide), fn.1 0 25 (by decide), egb]
      show (eI ga 0 25).toInt = 0
      omega
    · rw [H1, G29]; omega
    · rw [H1]; omega
    · rw [H1]; omega
    · rw [H5]; omega
    · rw [G36, H5, H1]; omega
    · rw [H5, Ha]; omega
    · intro c hc
      rw [H1] at hc
      by_cases cd : c = d
      · subst cd
        have W : (eA (sI gc 0 28 4) 0 31 c).toInt = w.toInt := by
          rw [gkeep 31 (by decide), m31]
          unfold upd
          rw [if_pos rfl]
        have F3 : eA h' 9 3 w.toInt.toNat = eI h 9 5 := by
          rw [H3]; unfold upd; rw [if_pos rfl]
        have F4 : eA h' 9 4 w.toInt.toNat = eI h17 9 5 := by
          rw [H4]; unfold upd; rw [if_pos rfl]
        refine ⟨by omega, by omega, ?_, fun _ => ?_, fun q => by omega⟩
        · rw [W, H0]
          unfold upd
          rw [if_pos rfl]
          exact hx1
        · rw [W]
          unfold LWR
          rw [F3, F4, H5]
          refine ⟨tx4, by omega, by omega, ?_, fun i i1 i2 => ?_, ?_⟩
          · rw [gkeep 32 (by decide), m32]
            unfold upd
            rw [if_pos rfl]
            omega
          · rw [H2, G37, G38]
            unfold upd
            rw [if_neg (by omega), if_neg (by omega)]
            exact c6 i i1 (by omega)
          · rw [G37]
            unfold upd
            rw [if_pos (by omega)]
            rfl
      · have hc2 : (c : Int) < (eI h 9 1).toInt := by omega
        have nw := tx8 w.toInt.toNat (by omega)
        have nw2 : ∀ c : Nat, (c : Int) < (eI h 9 1).toInt → ¬ (eA g 0 31 c).toInt = w.toInt := by
          rcases nw with q | q
          · intro c hc e
            exact q.2 c hc (by omega)
          · exact absurd no q.1
        refine CLR_keep (n := (eI h 9 1).toInt) (s := (eI h 9 5).toInt) (r := (eI g 0 36).toInt) (tx7 c hc2) hc2 (fun i hi => ?_) (fun i hi => ?_) (fun v v4 hv => ?_) rfl (by rw [H5]; omega) (by omega) ?_ ?_ ?_ ?_ ?_ (fun i hi => ?_)
        · rw [H0]; unfold upd; rw [if_neg (by omega)]
        · rw [H2]; exact c4 i hi
        · have ne : ¬ v = w.toInt.toNat := fun q => nw2 c hc2 (by omega)
          rw [H3, H4]
          unfold upd
          rw [if_neg ne, if_neg ne]
          exact ⟨rfl, rfl⟩
        · rw [gkeep 31 (by decide), m31]; unfold upd; rw [if_neg cd]
        · rw [gkeep 32 (by decide), m32]; unfold upd; rw [if_neg cd]
        · rw [gkeep 33 (by decide), m33]; unfold upd; rw [if_neg cd]
        · rw [gkeep 34 (by decide), m34]; unfold upd; rw [if_neg cd]
        · rw [gkeep 35 (by decide), m35]; unfold upd; rw [if_neg cd]
        · rw [G37, G38]
          unfold upd
          rw [if_neg (by omega), if_neg (by omega)]
          have := c5 i hi
          rw [m37, m38] at this
          exact this
    · intro v v4
      rw [H3, H1]
      unfold upd
      by_cases cv : v = w.toInt.toNat
      · rw [if_pos cv]
        refine Or.inr ⟨fun q => ?_, d, by omega, ?_⟩
        · have := gi_of_eq q
          have m : (-1 : Int32).toInt = -1 := rfl
          omega
        · rw [gkeep 31 (by decide), m31]
          unfold upd
          rw [if_pos rfl]
          omega
      · rw [if_neg cv]
        rcases tx8 v v4 with ⟨y1, y2⟩ | ⟨y1, c, y2, y3⟩
        · refine Or.inl ⟨y1, fun c hc => ?_⟩
          rw [gkeep 31 (by decide), m31]
          unfold upd
          by_cases cd : c = d
          · rw [if_pos cd]; omega
          · rw [if_neg cd]; exact y2 c (by omega)
        · refine Or.inr ⟨y1, c, by omega, ?_⟩
          rw [gkeep 31 (by decide), m31]
          unfold upd
          rw [if_neg (by omega)]
          exact y3
  · rw [if_neg (fun q => by have := gi_of_eq q; omega)] at e16
    obtain ⟨h4, e4, e16⟩ := ob1_some e16
    cases e16
    exact Or.inl (BADC_fr (BADC_of (bad_here t18 p18 x3 e4 b3 (by decide) et3) (Fr_trans fg1 (Fr_mono (by decide) x11.1))) f' (by decide) (by decide))
