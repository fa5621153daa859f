/-! text 0: each law that stands is of one type -/
theorem CTk_0 {B : Int → Int} {L : Int} {P : Nat → Int} {S : CL} {h h' : HS} (t : CT B L P 9 h) (f : Fr S h h') (n1 : (0, 4, 3) ∉ S) (n2 : (0, 4, 4) ∉ S) (n3 : (1, 4, 0) ∉ S) (n4 : (1, 4, 1) ∉ S) (n5 : (1, 4, 2) ∉ S) (n6 : (0, 9, 5) ∉ S) : CT B L P 9 h' := by
  obtain ⟨t0, t1, t2, t3, t4, t5⟩ := t
  have a : at_ h' = at_ h := by unfold at_; rw [f.1 4 4 n2]
  refine ⟨t0, TE_fr t1 f n1 n3 n4 n5, by omega, by rw [f.1 4 3 n1]; omega, by rw [f.1 9 5 n6]; exact t4, by rw [f.1 9 5 n6, a]; exact t5⟩
theorem ct_expect_0 {B : Int → Int} {L : Int} {P : Nat → Int} {h h' : HS} {k : Int32} (t : CT B L P 9 h) (e : f_X2_expect h k = some h') (hk : ¬ k.toInt = 0) : CT B L P 9 h' := by
  unfold f_X2_expect f_X2_expect_29 at e
  by_cases c : eI h 5 0 = 0
  · rw [if_pos c] at e
    obtain ⟨r, h2, e2, e⟩ := ob2_some e
    obtain ⟨u1, u2⟩ := CT_kind t e2
    obtain rfl : h = h2 := u1.symm
    replace u2 : r.toInt = kd h := u2
    by_cases c2 : r = k
    · rw [if_pos c2] at e
      have d2 := gi_of_eq c2
      obtain ⟨h5, e5, e⟩ := ob1_some e
      cases e
      exact (CT_adv (by decide) t (by omega) e5).1
    · rw [if_neg c2] at e
      obtain ⟨h4, e4, e⟩ := ob1_some e
      cases e
      exact CTk_0 t (w_f_X2_fail _ _ _ e4) (by decide) (by decide) (by decide) (by decide) (by decide) (by decide)
  · rw [if_neg c] at e
    cases e
    exact t
theorem ct_number_0 {B : Int → Int} {L : Int} {P : Nat → Int} {h h' : HS} {f lo hi : Int32} (t : CT B L P 9 h) (e : f_X2_readNumber_0 h f lo hi = some h') : CT B L P 9 h' := by
  have z2 : (2 : Int32).toInt = 2 := rfl
  unfold f_X2_readNumber_0 f_X2_readNumber_0_69 at e
  have fl : ∀ (w : Int32) (y : HS), f_X2_fail h w = some y → CT B L P 9 y := fun w y ef => CTk_0 t (w_f_X2_fail _ _ _ ef) (by decide) (by decide) (by decide) (by decide) (by decide) (by decide)
  by_cases c : eI h 5 0 = 0
  · rw [if_pos c] at e
    obtain ⟨r, h2, e2, e⟩ := ob2_some e
    obtain ⟨u1, u2⟩ := CT_kind t e2
    obtain rfl : h = h2 := u1.symm
    replace u2 : r.toInt = kd h := u2
    have b43 : f_X2_readNumber_0_43 h = some h' → CT B L P 9 h' := by
      intro e
      unfold f_X2_readNumber_0_43 f_X2_readNumber_0_69 at e
      obtain ⟨h4, e4, e⟩ := ob1_some e
      cases e
      exact fl _ _ e4
    by_cases c2 : r = 2
    · rw [if_pos c2] at e
      have d2 := gi_of_eq c2
      obtain ⟨r4, h4, e4, e⟩ := ob2_some e
      obtain ⟨u3, -⟩ := CT_value t e4
      obtain rfl : h = h4 := u3.symm
      by_cases c4 : r4 < lo
      · rw [if_pos c4] at e; exact b43 e
      · rw [if_neg c4] at e
        obtain ⟨r6, h6, e6, e⟩ := ob2_some e
        obtain ⟨u5, -⟩ := CT_value t e6
        obtain rfl : h = h6 := u5.symm
        by_cases c6 : r6 ≤ hi
        · rw [if_pos c6] at e
          obtain ⟨r8, h8, e8, e⟩ := ob2_some e
          obtain ⟨u7, -⟩ := CT_value t e8
          obtain rfl : h = h8 := u7.symm
          obtain ⟨h9, e9, e⟩ := ob1_some e
          obtain ⟨h10, e10, e⟩ := ob1_some e
          cases e
          have f9 := w_f_X6_setClause_0 _ _ _ _ _ e9
          have k9 : kd h9 = kd h := by unfold kd; rw [f9.1 4 4 (by decide), f9.2.1 4 0 (by decide)]
          exact (CT_adv (by decide) (CTk_0 t f9 (by decide) (by decide) (by decide) (by decide) (by decide) (by decide)) (by omega) e10).1
        · rw [if_neg c6] at e; exact b43 e
    · rw [if_neg c2] at e
      obtain ⟨h4, e4, e⟩ := ob1_some e
      cases e
      exact fl _ _ e4
  · rw [if_neg c] at e
    cases e
    exact t
theorem ct_deed_0 {B : Int → Int} {L : Int} {P : Nat → Int} {h h' : HS} {p : Int32} (t : CT B L P 9 h) (e : f_X2_readDeed_0 h p = some h') : CT B L P 9 h' := by
  unfold f_X2_readDeed_0 f_X2_readDeed_0_90 at e
  by_cases c : p = 23
  · rw [if_pos c] at e
    obtain ⟨h1, e1, e⟩ := ob1_some e
    cases e
    exact ct_number_0 t e1
  · rw [if_neg c] at e
    obtain ⟨h2, e2, e⟩ := ob1_some e
    have t2 := ct_number_0 t e2
    by_cases c20 : p = 20
    · rw [if_pos c20] at e
      obtain ⟨h3, e3, e⟩ := ob1_some e
      obtain ⟨h4, e4, e⟩ := ob1_some e
      obtain ⟨h5, e5, e⟩ := ob1_some e
      obtain ⟨h6, e6, e⟩ := ob1_some e
      cases e
      exact ct_number_0 (ct_expect_0 (ct_number_0 (ct_expect_0 t2 e3 (by decide)) e4) e5 (by decide)) e6
    · rw [if_neg c20] at e
      by_cases c21 : p = 21
      · rw [if_pos c21] at e
        obtain ⟨h3, e3, e⟩ := ob1_some e
        obtain ⟨h4, e4, e⟩ := ob1_some e
        cases e
        exact ct_number_0 (ct_expect_0 t2 e3 (by decide)) e4
      · rw [if_neg c21] at e
        cases e
        exact t2
theorem TYL_fr_0 {S : CL} {h h' : HS} (x : TYL 9 h) (f : Fr S h h') (n1 : (1, 9, 2) ∉ S) (n2 : (1, 9, 3) ∉ S) (n3 : (1, 9, 4) ∉ S) (n4 : (0, 9, 5) ∉ S) : TYL 9 h' := by
  unfold TYL at *
  rw [f.2.1 9 2 n1, f.2.1 9 3 n2, f.2.1 9 4 n3, f.1 9 5 n4]
  exact x
theorem tcl_0 {B : Int → Int} {L : Int} {P : Nat → Int} {h h' : HS} (ct : CT B L P 9 h) (ty0 : TYL 9 h) (e : f_X2_readClause_0 h = some h') (fz : eI h' 5 0 = 0) : CT B L P 9 h' ∧ TYL 9 h' := by
  have z0 : (0 : Int32).toInt = 0 := rfl
  have z3 : (3 : Int32).toInt = 3 := rfl
  have z4 : (4 : Int32).toInt = 4 := rfl
  have z16 : (16 : Int32).toInt = 16 := rfl
  have z23 : (23 : Int32).toInt = 23 := rfl
  unfold f_X2_readClause_0 f_X2_readClause_0_158 at e
  obtain ⟨r1, h1, e1, e⟩ := ob2_some e
  obtain ⟨q1, q2⟩ := CT_kind ct e1
  obtain rfl : h = h1 := q1.symm
  replace q2 : r1.toInt = kd h := q2
  have no25 : f_X2_readClause_0_25 (sI h 5 2 (r1 - 16)) = some h' → False := by
    intro e
    unfold f_X2_readClause_0_25 f_X2_readClause_0_158 at e
    obtain ⟨h5, e5, e⟩ := ob1_some e
    cases e
    exact fail_nz e5 (by decide) fz
  have end141 : ∀ (hD : HS), CT B L P 9 hD → TYL 9 hD → f_X2_readClause_0_141 hD = some h' → CT B L P 9 h' ∧ TYL 9 h' := by
    intro hD cD yD e
    unfold f_X2_readClause_0_141 f_X2_readClause_0_158 at e
    obtain ⟨h6, e6, e⟩ := ob1_some e
    have eh' : h' = sI h6 9 1 (eI h6 9 1 + 1) := (Option.some.inj e).symm
    have f' : Fr [(0, 9, 1)] h6 h' := by rw [eh']; exact Fr_sI (by decide) (Fr_refl _ _)
    have fx := w_f_X2_expect _ _ _ e6
    exact ⟨CTk_0 (ct_expect_0 cD e6 (by decide)) f' (by decide) (by decide) (by decide) (by decide) (by decide) (by decide), TYL_fr_0 (TYL_fr_0 yD fx (by decide) (by decide) (by decide) (by decide)) f' (by decide) (by decide) (by decide) (by decide)⟩
  have fk : Fr [(0, 5, 2)] h (sI h 5 2 (r1 - 16)) := Fr_sI (by decide) (Fr_refl _ _)
  by_cases c16 : r1 < 16
  · rw [if_pos c16] at e; exact absurd e no25
  · rw [if_neg c16] at e
    have d16 := gi_of_nlt c16
    by_cases c23 : r1 ≤ 23
    · rw [if_pos c23] at e
      have d23 := gi_of_le c23
      have hw := fb_subI (x := r1) (y := 16) (by omega) (by omega)
      obtain ⟨r4, h4, e4, e⟩ := ob2_some e
      obtain ⟨u1, -⟩ := cp_hasLaw_0 e4 (by omega)
      replace u1 : h4 = sI h 5 2 (r1 - 16) := u1
      subst u1
      by_cases c4 : r4 = 0
      · rw [if_pos c4] at e
        by_cases c24 : eI (sI h 5 2 (r1 - 16)) 9 1 < 24
        · rw [if_pos c24] at e
          obtain ⟨h7, e7, e⟩ := ob1_some e
          obtain ⟨h8, e8, e⟩ := ob1_some e
          have f7 := w_f_X6_setClause_0 _ _ _ _ _ e7
          have c7 : CT B L P 9 h7 := CTk_0 (CTk_0 ct fk (by decide) (by decide) (by decide) (by decide) (by decide) (by decide)) f7 (by decide) (by decide) (by decide) (by decide) (by decide) (by decide)
          have y7 : TYL 9 h7 := TYL_fr_0 (TYL_fr_0 ty0 fk (by decide) (by decide) (by decide) (by decide)) f7 (by decide) (by decide) (by decide) (by decide)
          have k7 : kd h7 = kd h := by unfold kd; rw [f7.1 4 4 (by decide), f7.2.1 4 0 (by decide)]; rfl
          have a8 := CT_adv (by decide) c7 (by omega) e8
          have f8 := w_f_X7_advance _ _ e8
          have y8 : TYL 9 h8 := TYL_fr_0 y7 f8 (by decide) (by decide) (by decide) (by decide)
          have h852 : eI h8 5 2 = r1 - 16 := by rw [f8.1 5 2 (by decide), f7.1 5 2 (by decide)]; rfl
          rw [h852] at e
          by_cases c5 : (4 : Int32) ≤ r1 - 16
          · rw [if_pos c5] at e
            obtain ⟨h10, e10, e⟩ := ob1_some e
            have fd := w_f_X2_readDeed_0 _ _ _ e10
            exact end141 h10 (ct_deed_0 a8.1 e10) (TYL_fr_0 y8 fd (by decide) (by decide) (by decide) (by decide)) e
          · rw [if_neg c5] at e
            have d5 := gi_of_nle c5
            obtain ⟨h11, e11, e⟩ := ob1_some e
            have eh11 := cp_beginLaw_0 e11 (by omega) (by omega)
            have f11 : Fr [(1, 9, 3)] h8 h11 := by rw [eh11]; exact Fr_sA (by decide) (Fr_refl _ _)
            have c11 : CT B L P 9 h11 := CTk_0 a8.1 f11 (by decide) (by decide) (by decide) (by decide) (by decide) (by decide)
            have h1152 : eI h11 5 2 = r1 - 16 := (f11.1 5 2 (by decide)).trans h852
            have s11 : eI h11 9 5 = eI h8 9 5 := f11.1 9 5 (by decide)
            have law : ∀ (lvl : Int32), f_X2_readClause_0_119 h11 lvl = some h' → (lvl = 0 ∨ lvl = 3) → decide (lvl.toInt ≤ 2) = decide ((r1 - 16).toInt.toNat = 3) → CT B L P 9 h' ∧ TYL 9 h' := by
              intro lvl e hl hb
              unfold f_X2_readClause_0_119 at e
              obtain ⟨h17, e17, e⟩ := ob1_some e
              obtain ⟨h18, e18, e⟩ := ob1_some e
              have f17 : eI h17 5 0 = 0 := by
                have k141 := kf_f_X2_readClause_0_141 _ _ e fz
                have f18 := w_f_X6_closeLaw_0 _ _ _ e18
                rw [← f18.1 5 0 (by decide)]; exact k141
              obtain ⟨w1, w2⟩ := (types_0 B L P 200).2.2 lvl h11 h17 0 e17 (by rcases hl with q | q <;> (rw [q]; decide)) (by rcases hl with q | q <;> (rw [q]; decide)) c11 (by decide) (by decide) f17
              have fr17 : Fr S_read_0 h11 h17 := w_G_read_0 _ _ _ _ _ _ e17
              have h52 : eI h17 5 2 = r1 - 16 := (fr17.1 5 2 (by decide)).trans h1152
              rw [h52] at e18
              have eh18 := cp_closeLaw_0 e18 (by omega) (by omega)
              have f18 : Fr [(1, 9, 4)] h17 h18 := by rw [eh18]; exact Fr_sA (by decide) (Fr_refl _ _)
              refine end141 h18 (CTk_0 w1 f18 (by decide) (by decide) (by decide) (by decide) (by decide) (by decide)) ?_ e
              obtain ⟨x1, x2, x3, x4⟩ := w2
              have S3 : eA h18 9 3 = upd (eA h8 9 3) (r1 - 16).toInt.toNat (eI h8 9 5) := by
                rw [f18.2.1 9 3 (by decide), fr17.2.1 9 3 (by decide), eh11]; rfl
              have S4 : eA h18 9 4 = upd (eA h8 9 4) (r1 - 16).toInt.toNat (eI h17 9 5) := by
                rw [eh18]
                show upd (eA h17 9 4) _ _ = _
                rw [fr17.2.1 9 4 (by decide), f11.2.1 9 4 (by decide)]
              have S2 : eA h18 9 2 = eA h17 9 2 := f18.2.1 9 2 (by decide)
              have S5 : eI h18 9 5 = eI h17 9 5 := f18.1 9 5 (by decide)
              have st8 : eA h11 9 2 = eA h8 9 2 := f11.2.1 9 2 (by decide)
              rw [s11] at x1 x3 x4
              rw [st8] at x3
              have n8 : 0 ≤ (eI h8 9 5).toInt := a8.1.2.2.2.2.1
              intro w hw nw
              rw [S3] at nw ⊢
              rw [S4, S2, S5]
              unfold upd at nw ⊢
              by_cases cw : w = (r1 - 16).toInt.toNat
              · rw [if_pos cw, if_pos cw]
                refine ⟨n8, x1, Int.le_refl _, ?_, fun w2 i i1 i2 => ?_⟩
                · rw [x4 [] 22 (by rcases hl with q | q <;> (rw [q]; decide)), cw]
                  rw [hb]
                · have nb := (nb_all_0 200).2.2 lvl h11 h17 0 e17 (by rcases hl with q | q <;> (rw [q]; decide)) (by rcases hl with q | q <;> (rw [q]; decide))
                  exact nb.2 (by rw [h1152]; omega) (eI h8 9 5).toInt (fun k k1 k2 => by rw [s11] at k2; omega) i i1 i2
              · rw [if_neg cw] at nw
                rw [if_neg cw, if_neg cw]
                obtain ⟨v1, v2, v3, v4, v5⟩ := y8 w hw nw
                refine ⟨v1, v2, by omega, ?_, fun w2 i i1 i2 => ?_⟩
                · rw [ty_congr (a := eA h8 9 2) _ _ _ (fun j j1 j2 => x3 j (by omega))]
                  exact v4
                · rw [x3 i (by omega)]
                  exact v5 w2 i i1 i2
            rw [h1152] at e
            by_cases c3 : r1 - 16 = 3
            · rw [if_pos c3] at e
              refine law 0 e (Or.inl rfl) ?_
              rw [c3]; decide
            · rw [if_neg c3] at e
              refine law 3 e (Or.inr rfl) ?_
              have d3 := gi_of_ne c3
              rw [decide_eq_false (show ¬ (3 : Int32).toInt ≤ 2 by decide), decide_eq_false (by omega)]
        · rw [if_neg c24] at e
          obtain ⟨h13, e13, e⟩ := ob1_some e
          cases e
          exact absurd fz (fail_nz e13 (by decide))
      · rw [if_neg c4] at e
        obtain ⟨h14, e14, e⟩ := ob1_some e
        cases e
        exact absurd fz (fail_nz e14 (by decide))
    · rw [if_neg c23] at e; exact absurd e no25
/-! text 0: the whole text -/
theorem typ_loop_0 {B : Int → Int} {L : Int} {P : Nat → Int} {h' : HS} (fz : eI h' 5 0 = 0) : ∀ (n : Nat) (h : HS) (x3 : Int32), f_X2_parse_0_16 n h x3 = some h' → (eI h 5 0 = 0 → CT B L P 9 h ∧ TYL 9 h) → TYL 9 h' := by
  intro n
  induction n with
  | zero => intro h x3 e; cases e
  | succ n ih =>
    intro h x3 e i
    rw [f_X2_parse_0_16_s] at e
    unfold f_X2_parse_0_48 at e
    have stop : some h = some h' → TYL 9 h' := by
      intro q
      cases q
      exact (i fz).2
    by_cases c : (24 : Int32) < x3
    · rw [if_pos c] at e; exact stop e
    · rw [if_neg c] at e
      by_cases p0 : eI h 5 0 = 0
      · rw [if_pos p0] at e
        obtain ⟨r4, h4, e4, e⟩ := ob2_some e
        obtain rfl : h = h4 := (cp_kind_same e4).symm
        by_cases c4 : r4 = 0
        · rw [if_pos c4] at e; exact stop e
        · rw [if_neg c4] at e
          obtain ⟨h6, e6, e⟩ := ob1_some e
          exact ih h6 (x3 + 1) e (fun q => tcl_0 (i p0).1 (i p0).2 e6 q)
      · rw [if_neg p0] at e; exact stop e
theorem typ_text_0 {h h3 h4 : HS} (hL0 : 0 ≤ cL h) (hL : cL h ≤ 300) (e3 : f_X7_split h = some h3) (e4 : f_X2_parse_0 h3 = some h4) (fz : eI h4 5 0 = 0) : TYL 9 h4 := by
  have z0 : (0 : Int32).toInt = 0 := rfl
  obtain ⟨P, te, at0⟩ := cx_split e3 hL0 hL
  unfold f_X2_parse_0 at e4
  obtain ⟨h1, e1, e4⟩ := ob1_some e4
  unfold f_X6_clear_0 at e1
  obtain ⟨cl1, cl2⟩ := cp_clear_0 _ _ h1 0 e1 (by decide) (fun w hw => by omega)
  have f1 : Fr [(0, 5, 0), (0, 5, 1), (0, 9, 1), (0, 9, 5), (1, 9, 3), (1, 9, 4)] h3 h1 := Fr_trans (Fr_sI (by decide) (Fr_sI (by decide) (Fr_sI (by decide) (Fr_sI (by decide) (Fr_refl _ _))))) (Fr_mono (by decide) cl2)
  have c5 : eI h1 9 5 = 0 := cl2.1 9 5 (by decide)
  have te1 : TE (cB h) (cL h) h1 P := TE_fr te f1 (by decide) (by decide) (by decide) (by decide)
  have a1 : eI h1 4 4 = 0 := (f1.1 4 4 (by decide)).trans at0
  have p := te1.2.1
  refine typ_loop_0 (B := cB h) (L := cL h) (P := P) fz _ h1 0 e4 (fun _ => ⟨⟨hL, te1, ?_, ?_, ?_, ?_⟩, fun w hw nw => absurd (cl1 w hw) nw⟩)
  · unfold at_; rw [a1]; decide
  · unfold at_; rw [a1]; omega
  · rw [c5]; decide
  · unfold at_; rw [a1, c5]; decide
