theorem law_0 {B : Int → Int} {L : Int} {P : Nat → Int} {h h' h7 h8 h11 g g1 : HS} {N : Nat} {r : Int32 × HS} {r1 : Int32} (bg : BEG B L P 9 h g) (hr1 : r1.toInt = kd h) (k0 : 16 ≤ kd h) (k1 : kd h ≤ 19) (no : eA h 9 3 (kd h - 16).toNat = -1) (cc : (eI h 9 1).toInt < 24) (e7 : f_X6_setClause_0 (sI h 5 2 (r1 - 16)) (eI h 9 1) 0 r1 = some h7) (e8 : f_X7_advance h7 = some h8) (e11 : f_X6_beginLaw_0 h8 (eI h8 5 2) = some h11) (e : (if eI h11 5 2 = 3 then f_X2_readClause_0_119 h11 0 else f_X2_readClause_0_119 h11 3) = some h') (b : f_X9_clause_73 (sI g 0 30 (eI g 0 18)) = some g1) (et : f_X9_text_74 N g1 = some r) : BADC r h' g ∨ NXT_0 B L P r h h' g := by
  have z0 : (0 : Int32).toInt = 0 := rfl
  have z1 : (1 : Int32).toInt = 1 := rfl
  have z2 : (2 : Int32).toInt = 2 := rfl
  have z3 : (3 : Int32).toInt = 3 := rfl
  have z16 : (16 : Int32).toInt = 16 := rfl
  obtain ⟨bt, bf, bw, b21, b22, b25, b28, bpl, tx1, ⟨tx2, tx3⟩, tx4, tx5, tx6, tx7, tx8⟩ := id bg
  have hw := fb_subI (x := r1) (y := 16) (by omega) (by omega)
  have eh7 := cp_setClause_0 e7 tx2 (by omega) (by decide) (by decide)
  have f7 : Fr [(0, 5, 2), (1, 9, 0)] h h7 := by rw [eh7]; exact Fr_sA (by decide) (Fr_sI (by decide) (Fr_refl _ _))
  have t7 := TT_h bt f7 (by decide) (by decide) (by decide) (by decide) (by decide)
  have kd7 : kd h7 = kd h := by rw [eh7]; rfl
  have at7 : at_ h7 = at_ h := by rw [eh7]; rfl
  unfold f_X9_clause_73 at b
  rw [if_pos (show eI (sI g 0 30 (eI g 0 18)) 0 19 ≤ 0 by show eI g 0 19 ≤ 0; rw [bw]; decide)] at b
  obtain ⟨-, b⟩ := ob_if b
  obtain ⟨-, b⟩ := ob_if b
  obtain ⟨-, b⟩ := ob_if b
  obtain ⟨-, b⟩ := ob_if b
  obtain ⟨-, b⟩ := ob_if b
  obtain ⟨g16, b16, b⟩ := ob1_some b
  have f15 : Fr [(0, 0, 30), (1, 0, 31), (1, 0, 32), (1, 0, 33), (1, 0, 34), (1, 0, 35)] g _ := Fr_sA (v := upd (eA (sI g 0 30 (eI g 0 18)) 0 35) ((eI (sI g 0 30 (eI g 0 18)) 0 29).toNatClampNeg) (-1)) (o := 0) (k := 35) (by decide) (Fr_sA (v := upd (eA (sI g 0 30 (eI g 0 18)) 0 34) ((eI (sI g 0 30 (eI g 0 18)) 0 29).toNatClampNeg) (-1)) (o := 0) (k := 34) (by decide) (Fr_sA (v := upd (eA (sI g 0 30 (eI g 0 18)) 0 33) ((eI (sI g 0 30 (eI g 0 18)) 0 29).toNatClampNeg) (-1)) (o := 0) (k := 33) (by decide) (Fr_sA (v := upd (eA (sI g 0 30 (eI g 0 18)) 0 32) ((eI (sI g 0 30 (eI g 0 18)) 0 29).toNatClampNeg) (eI (sI g 0 30 (eI g 0 18)) 0 36)) (o := 0) (k := 32) (by decide) (Fr_sA (v := upd (eA (sI g 0 30 (eI g 0 18)) 0 31) ((eI (sI g 0 30 (eI g 0 18)) 0 29).toNatClampNeg) (eI (sI g 0 30 (eI g 0 18)) 0 30)) (o := 0) (k := 31) (by decide) (Fr_sI (v := eI g 0 18) (o := 0) (k := 30) (by decide) (Fr_refl _ g))))))
  obtain ⟨t8, eh8, ea8⟩ := TT_adv t7 (by omega) e8 f15 (by decide) (by decide) (by decide) b16
  have fn := w_f_X9_next _ _ b16
  have so : (eI g 0 17).toInt = 1 ∧ (eI g 0 18).toInt = kd h - 16 := by
    have tk := TT_tk bt
    rcases tk with u | u | u | u | u
    · omega
    · omega
    · omega
    · omega
    · have := u.2; unfold SG at this; omega
  have ecc : (eI g 0 29).toNatClampNeg = (eI h 9 1).toInt.toNat := by rw [Int32.toNatClampNeg]; omega
  have K30 : eI g16 0 30 = eI g 0 18 := fn.1 0 30 (by decide)
  have M31 : eA g16 0 31 = upd (eA g 0 31) (eI h 9 1).toInt.toNat (eI g 0 18) := by rw [fn.2.1 0 31 (by decide), ← ecc]; rfl
  have M32 : eA g16 0 32 = upd (eA g 0 32) (eI h 9 1).toInt.toNat (eI g 0 36) := by rw [fn.2.1 0 32 (by decide), ← ecc]; rfl
  have M33 : eA g16 0 33 = upd (eA g 0 33) (eI h 9 1).toInt.toNat (-1) := by rw [fn.2.1 0 33 (by decide), ← ecc]; rfl
  have M34 : eA g16 0 34 = upd (eA g 0 34) (eI h 9 1).toInt.toNat (-1) := by rw [fn.2.1 0 34 (by decide), ← ecc]; rfl
  have M35 : eA g16 0 35 = upd (eA g 0 35) (eI h 9 1).toInt.toNat (-1) := by rw [fn.2.1 0 35 (by decide), ← ecc]; rfl
  rw [K30, if_neg (fun q => by have := gi_of_lt q; omega)] at b
  have h852 : eI h8 5 2 = r1 - 16 := by rw [eh8, eh7]; rfl
  rw [h852] at e11
  have eh11 := cp_beginLaw_0 e11 (by omega) (by omega)
  have f8 : Fr [(0, 4, 4)] h7 h8 := by rw [eh8]; exact Fr_sI (by decide) (Fr_refl _ _)
  have f11 : Fr [(1, 9, 3)] h8 h11 := by rw [eh11]; exact Fr_sA (by decide) (Fr_refl _ _)
  have h1152 : eI h11 5 2 = r1 - 16 := (f11.1 5 2 (by decide)).trans h852
  have lk : eI g 0 18 = r1 - 16 := gi_eq (by omega)
  obtain ⟨f, st, lvl, g34, b34, eg1, e119, hf⟩ : ∃ (f st lvl : Int32) (g34 : HS), f_X9_opensFrame g16 f = some g34 ∧ g1 = sI g34 0 28 st ∧ f_X2_readClause_0_119 h11 lvl = some h' ∧ ((f.toInt = 2 ∧ st.toInt = 0 ∧ lvl = 0) ∨ (f.toInt = 1 ∧ st.toInt = 1 ∧ lvl = 3)) := by
    rw [h1152] at e
    unfold f_X9_clause_163 f_X9_clause_180 at b
    by_cases c3 : r1 - 16 = 3
    · rw [if_pos c3] at e
      rw [if_pos (lk.trans c3)] at b
      obtain ⟨g34, b34, b⟩ := ob1_some b
      have k34 : eI g34 0 30 = eI g16 0 30 := by
        obtain ⟨-, q⟩ := mp_opensFrame b34
        rw [q]; rfl
      rw [if_pos (by rw [k34, K30]; exact lk.trans c3)] at b
      exact ⟨2, 0, 0, g34, b34, (Option.some.inj b).symm, e, Or.inl ⟨rfl, rfl, rfl⟩⟩
    · rw [if_neg c3] at e
      rw [if_neg (fun q => c3 (lk.symm.trans q))] at b
      obtain ⟨g34, b34, b⟩ := ob1_some b
      have k34 : eI g34 0 30 = eI g16 0 30 := by
        obtain ⟨-, q⟩ := mp_opensFrame b34
        rw [q]; rfl
      rw [if_neg (fun q => c3 (by rw [k34, K30] at q; exact lk.symm.trans q))] at b
      exact ⟨1, 1, 3, g34, b34, (Option.some.inj b).symm, e, Or.inr ⟨rfl, rfl, rfl⟩⟩
  obtain ⟨-, eg34⟩ := mp_opensFrame b34
  have i22 : eI g16 0 22 = eI g 0 22 := fn.1 0 22 (by decide)
  have fA : Fr [(1, 0, 23), (0, 0, 22), (0, 0, 28)] g16 g1 := by rw [eg1, eg34]; exact Fr_sI (by decide) (Fr_sI (by decide) (Fr_sA (by decide) (Fr_refl _ _)))
  have a22 := fb_addI (x := eI g 0 22) (y := 1) (by omega) (by omega)
  have A22 : (eI g1 0 22).toInt = 1 := by
    rw [eg1, eg34]
    show (eI g16 0 22 + 1).toInt = 1
    rw [i22]; omega
  have A23 : (eA g1 0 23 0).toInt = f.toInt := by
    rw [eg1, eg34]
    show (upd (eA g16 0 23) (eI g16 0 22).toInt.toNat f 0).toInt = _
    rw [i22, b22]
    rfl
  have A28 : eI g1 0 28 = st := by rw [eg1]; rfl
  have A25 : (eI g1 0 25).toInt = 0 := by rw [fA.1 0 25 (by decide), fn.1 0 25 (by decide)]; exact b25
  have A21 : (eI g1 0 21).toInt = 0 := by rw [fA.1 0 21 (by decide), fn.1 0 21 (by decide)]; exact b21
  have A36 : eI g1 0 36 = eI g 0 36 := by rw [fA.1 0 36 (by decide), fn.1 0 36 (by decide)]; rfl
  have fg1 : Fr SPC g g1 := Fr_trans (Fr_mono (by decide) f15) (Fr_trans (Fr_mono (by decide) fn) (Fr_mono (by decide) fA))
  have q5 : eI h11 9 5 = eI h 9 5 := by rw [f11.1 9 5 (by decide), f8.1 9 5 (by decide), f7.1 9 5 (by decide)]
  have qa : at_ h11 = at_ h + 1 := by
    rw [← at7, ← ea8, eh11]; rfl
  have pr : PRE B L P 9 (eI h 9 1).toInt.toNat (0 : Int32).toInt h11 g1 := by
    refine ⟨TT_g (TT_h t8 f11 (by decide) (by decide) (by decide) (by decide) (by decide)) fA (by decide) (by decide) (by decide) (by decide) (by decide) (by decide), ?_, ?_, A21, by omega, ⟨by omega, by omega, fun i hi => by omega⟩, by rw [A36, q5]; omega, ⟨by rw [q5]; exact tx4, by rw [q5, qa]; omega⟩, ?_, ?_⟩
    · rw [f11.1 5 0 (by decide), f8.1 5 0 (by decide), f7.1 5 0 (by decide)]; exact bf
    · rw [fA.1 0 19 (by decide), fn.1 0 19 (by decide)]; exact bw
    · rw [fA.1 0 30 (by decide), K30, h1152]; exact lk
    · rw [h1152]; omega
  unfold f_X2_readClause_0_119 at e119
  obtain ⟨h17, e17, e119⟩ := ob1_some e119
  obtain ⟨h18, e18, e119⟩ := ob1_some e119
  have fh17 : Fr S_read_0 h11 h17 := w_G_read_0 _ _ _ _ _ _ e17
  have topx : eA g1 0 23 ((eI g1 0 22).toInt.toNat - 1) = eA g1 0 23 0 := by rw [A22]; rfl
  rcases (read_0 B L P (eI h 9 1).toInt.toNat 200).2.2 lvl h11 h17 g1 N r 0 e17 (by rcases hf with q | q <;> (rw [q.2.2]; decide)) (by rcases hf with q | q <;> (rw [q.2.2]; decide)) pr (by rw [A28]; rcases hf with q | q <;> (rw [q.2.2]; omega)) (by omega) (by rw [topx]; omega) (by rw [topx]; omega) (Or.inl (by omega)) et with bad | ⟨N2, g2, ps, et2, R, s2, rks, nop⟩
  · have bad2 := BAD_fr bad (w_f_X6_closeLaw_0 h17 _ _ e18) (by decide) (by decide)
    unfold f_X2_readClause_0_141 f_X2_readClause_0_158 f_X2_expect at e119
    obtain ⟨h16, e16, e119⟩ := ob1_some e119
    rw [if_neg bad2.1] at e16
    cases e16
    cases e119
    exact Or.inl (BADC_fr (BADC_of bad2 fg1) (Fr_sI (S := [(0, 9, 1)]) (by decide) (Fr_refl _ _)) (by decide) (by decide))
  · have x4 := R.2.2.2.1.1
    have x6 := R.2.2.2.1.2.2.1
    have top2 : (eA g2 0 23 ((eI g2 0 22).toInt.toNat - 1)).toInt = f.toInt := by
      rw [x4, x6 _ (by omega), topx]; exact A23
    refine lawend_0 (d := (eI h 9 1).toInt.toNat) (w := r1 - 16) (x1 := r1) bg ⟨by omega, by omega⟩ (by rw [show (r1 - 16).toInt = kd h - 16 by omega]; exact no) cc (by omega) ?_ (by omega) ?_ ?_ q5 ?_ ?_ qa h1152 ?_ ?_ ?_ ?_ ?_ A36 ?_ ?_ ?_ A21 A25 ?_ ?_ fg1 R fh17 (fun p hp => ?_) ?_ e18 e119
    · rw [f11.2.1 9 0 (by decide), f8.2.1 9 0 (by decide), eh7]; rfl
    · rw [eh11]
      show upd (eA h8 9 3) (r1 - 16).toInt.toNat (eI h8 9 5) = _
      rw [f8.2.1 9 3 (by decide), f7.2.1 9 3 (by decide), f8.1 9 5 (by decide), f7.1 9 5 (by decide)]
    · rw [f11.2.1 9 4 (by decide), f8.2.1 9 4 (by decide), f7.2.1 9 4 (by decide)]
    · rw [f11.2.1 9 2 (by decide), f8.2.1 9 2 (by decide), f7.2.1 9 2 (by decide)]
    · rw [f11.1 9 1 (by decide), f8.1 9 1 (by decide), f7.1 9 1 (by decide)]
    · rw [fA.2.1 0 31 (by decide), M31, lk]
    · rw [fA.2.1 0 32 (by decide), M32]
    · rw [fA.2.1 0 33 (by decide), M33]
    · rw [fA.2.1 0 34 (by decide), M34]
    · rw [fA.2.1 0 35 (by decide), M35]
    · rw [fA.2.1 0 37 (by decide), fn.2.1 0 37 (by decide)]; rfl
    · rw [fA.2.1 0 38 (by decide), fn.2.1 0 38 (by decide)]; rfl
    · rw [fA.1 0 29 (by decide), fn.1 0 29 (by decide)]; rfl
    · rw [fA.1 0 20 (by decide), fn.1 0 20 (by decide)]; exact bpl.2
    · rw [f11.1 5 1 (by decide), f8.1 5 1 (by decide), f7.1 5 1 (by decide)]; exact bpl.1
    · have := rks p hp
      rcases hf with q | q
      · rw [q.2.2] at this
        have : (1 : Int) ≤ rnk p := this
        omega
      · rw [q.2.2] at this
        have : (3 : Int) ≤ rnk p := this
        omega
    · rcases hf with ⟨q1, q2, q3⟩ | ⟨q1, q2, q3⟩
      · subst q3
        exact mp_end0 R.1 R.2.2.1 et2 (by omega) (by omega) nop
      · subst q3
        exact mp_end1 R.1 R.2.2.1 et2 (by omega) (by omega) nop
/-! text 0: a clause of a deed -/
