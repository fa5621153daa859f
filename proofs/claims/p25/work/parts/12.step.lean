def Inv (h g : HS) : Prop := IC h ∧ IM g ∧ TAP h g ∧ (eI h 5 0 = eI g 0 4 ∧ eI h 5 1 = eI g 0 5) ∧ STD h g ∧ (SRel h 2 (eA g 0 1) ∧ RG (eA g 0 1)) ∧ (eA g 0 1 3).toInt ≤ (eA g 0 0 3).toInt
abbrev KI2 : CL := [(0, 2, 3), (0, 2, 4), (0, 2, 5), (0, 2, 6), (0, 2, 7), (0, 2, 8), (0, 2, 9), (0, 2, 10), (0, 2, 11), (0, 2, 12), (1, 2, 0), (1, 2, 1), (1, 2, 2)]
theorem TAP_fr {S T : CL} {h h' g g' : HS} (t : TAP h g) (f : Fr S h h') (k : Fr T g g') (h1 : (0, 3, 1) ∉ S) (h2 : (1, 3, 0) ∉ S) (h3 : (0, 0, 3) ∉ T) (h4 : (1, 0, 2) ∉ T) : TAP h' g' := by
  unfold TAP cL cB mB at *
  rw [f.1 3 1 h1, f.2.1 3 0 h2, k.1 0 3 h3, k.2.1 0 2 h4]
  exact t
/-- nothing of the state is touched -/
theorem inv_gen {S T : CL} {h h' g g' : HS} (i : Inv h g) (f : Fr S h h') (k : Fr T g g') (n1 : ∀ y ∈ KS1, y ∉ S) (n2 : ∀ y ∈ KI2, y ∉ S) (n3 : ∀ y ∈ KTC, y ∉ S) (n4 : ∀ y ∈ ([(0, 5, 0), (0, 5, 1)] : CL), y ∉ S) (m1 : ∀ y ∈ ([(1, 0, 0), (1, 0, 1), (0, 0, 4), (0, 0, 5)] : CL), y ∉ T) (m2 : ∀ y ∈ KTM, y ∉ T) (ic : IC h') (im : IM g') (tp : TAP h' g') : Inv h' g' := by
  obtain ⟨-, -, -, ⟨i1, i2⟩, i3, ⟨i4, i5⟩, i6⟩ := i
  have e0 : eA g' 0 0 = eA g 0 0 := k.2.1 0 0 (m1 _ (by decide))
  have e1 : eA g' 0 1 = eA g 0 1 := k.2.1 0 1 (m1 _ (by decide))
  refine ⟨ic, im, tp, ⟨?_, ?_⟩, STD_fr i3 f k n1 n3 (m1 _ (by decide)) m2, ⟨?_, ?_⟩, ?_⟩
  · rw [f.1 5 0 (n4 _ (by decide)), k.1 0 4 (m1 _ (by decide))]; exact i1
  · rw [f.1 5 1 (n4 _ (by decide)), k.1 0 5 (m1 _ (by decide))]; exact i2
  · rw [e1]; exact SRel_fr i4 f n2
  · rw [e1]; exact i5
  · rw [e0, e1]; exact i6
theorem inv_query {α : Type} {S T : CL} {x y : Option (α × HS)} {P Q : α × HS → Prop} {c : Prop} {h g : HS} (i : Inv h g) (a : ok x P) (b : ok y Q) (fx : pk x (fun a => Fr S h a.2)) (fy : pk y (fun a => Fr T g a.2)) (n1 : ∀ y ∈ KS1, y ∉ S) (n2 : ∀ y ∈ KI2, y ∉ S) (n3 : ∀ y ∈ KTC, y ∉ S) (n4 : ∀ y ∈ ([(0, 5, 0), (0, 5, 1), (0, 3, 1), (1, 3, 0)] : CL), y ∉ S) (m1 : ∀ y ∈ ([(1, 0, 0), (1, 0, 1), (0, 0, 4), (0, 0, 5), (0, 0, 3), (1, 0, 2)] : CL), y ∉ T) (m2 : ∀ y ∈ KTM, y ∉ T) (hp : ∀ z, P z → IC z.2) (hq : ∀ z, Q z → IM z.2) (hc : ∀ z w, x = some z → y = some w → c → z.1 = w.1) : ∃ (r1 : α) (h1 : HS) (r2 : α) (g1 : HS), x = some (r1, h1) ∧ y = some (r2, g1) ∧ Inv h1 g1 ∧ (c → r1 = r2) := by
  obtain ⟨z, e1, k1⟩ := a
  obtain ⟨w, e2, k2⟩ := b
  have f := fx z e1
  have k := fy w e2
  refine ⟨z.1, z.2, w.1, w.2, e1, e2, inv_gen i f k n1 n2 n3 (fun y hy => n4 y ((show ∀ y ∈ ([(0, 5, 0), (0, 5, 1)] : CL), y ∈ ([(0, 5, 0), (0, 5, 1), (0, 3, 1), (1, 3, 0)] : CL) by decide) y hy)) (fun y hy => m1 y ((show ∀ y ∈ ([(1, 0, 0), (1, 0, 1), (0, 0, 4), (0, 0, 5)] : CL), y ∈ ([(1, 0, 0), (1, 0, 1), (0, 0, 4), (0, 0, 5), (0, 0, 3), (1, 0, 2)] : CL) by decide) y hy)) m2 (hp z k1) (hq w k2) (TAP_fr i.2.2.1 f k (n4 _ (by decide)) (n4 _ (by decide)) (m1 _ (by decide)) (m1 _ (by decide))), hc z w e1 e2⟩
/-- a call that changes the state -/
theorem inv_deed {S T : CL} {x y : Option (Int32 × HS)} {P Q : Int32 × HS → Prop} {c : Prop} {h g : HS} (i : Inv h g) (a : ok x P) (b : ok y Q) (fx : pk x (fun a => Fr S h a.2)) (fy : pk y (fun a => Fr T g a.2)) (n1 : (0, 1, 9) ∉ S) (n2 : ∀ y ∈ KI2, y ∉ S) (n3 : ∀ y ∈ KTC, y ∉ S) (n4 : ∀ y ∈ ([(0, 5, 0), (0, 5, 1), (0, 3, 1), (1, 3, 0)] : CL), y ∉ S) (m1 : ∀ y ∈ ([(1, 0, 1), (0, 0, 4), (0, 0, 5), (0, 0, 3), (1, 0, 2)] : CL), y ∉ T) (m2 : ∀ y ∈ KTM, y ∉ T) (hp : ∀ z, P z → IC z.2) (hq : ∀ z, Q z → IM z.2) (hd : ∀ z w, x = some z → y = some w → DONE h g z w) : ∃ (r1 : Int32) (h1 : HS) (r2 : Int32) (g1 : HS), x = some (r1, h1) ∧ y = some (r2, g1) ∧ Inv h1 g1 ∧ (c → r1 = r2) := by
  obtain ⟨z, e1, k1⟩ := a
  obtain ⟨w, e2, k2⟩ := b
  have f := fx z e1
  have k := fy w e2
  have D := hd z w e1 e2
  obtain ⟨-, -, i0, ⟨i1, i2⟩, i3, ⟨i4, i5⟩, i6⟩ := i
  have s := STD_done i3 D f k n1 n3 m2
  have g1 : eA w.2 0 1 = eA g 0 1 := k.2.1 0 1 (m1 _ (by decide))
  have e3 : eA w.2 0 0 3 = eA g 0 0 3 := by
    rw [← D.2.1.1.2.2.2.2.2.2.1, f.1 1 9 n1]
    exact i3.1.1.2.2.2.2.2.2.1
  refine ⟨z.1, z.2, w.1, w.2, e1, e2, ⟨hp z k1, hq w k2, TAP_fr i0 f k (n4 _ (by decide)) (n4 _ (by decide)) (m1 _ (by decide)) (m1 _ (by decide)), ⟨?_, ?_⟩, s, ⟨?_, ?_⟩, ?_⟩, fun _ => D.1⟩
  · rw [f.1 5 0 (n4 _ (by decide)), k.1 0 4 (m1 _ (by decide))]; exact i1
  · rw [f.1 5 1 (n4 _ (by decide)), k.1 0 5 (m1 _ (by decide))]; exact i2
  · rw [g1]; exact SRel_fr i4 f n2
  · rw [g1]; exact i5
  · rw [g1, e3]; exact i6
theorem ls_feed (c : Prop) : LS_feed c Inv := by
  intro h g p1 p2 p3 p4 p5 i
  obtain ⟨z, e1, k1⟩ := u_X8_feed h p1 p2 p3 p4 p5 i.1
  obtain ⟨w, e2, k2⟩ := u_X9_feed g p1 p2 p3 p4 p5 i.2.1
  have hn := IC_n i.1
  obtain ⟨t, q⟩ := feed_both e1 e2 i.2.2.1 (by unfold cL; omega) (by unfold cL; omega)
  have f := w_f_X8_feed _ _ _ _ _ _ _ e1
  have k := w_f_X9_feed _ _ _ _ _ _ _ e2
  exact ⟨z.1, z.2, w.1, w.2, e1, e2, inv_gen i f k (by decide) (by decide) (by decide) (by decide) (by decide) (by decide) k1.1.1 k2.1.1 t, fun _ => q⟩
theorem ls_end (c : Prop) : LS_end c Inv := by
  intro h g p1 i
  have z0 : (0 : Int32).toInt = 0 := rfl
  obtain ⟨z, e1, k1⟩ := u_X8_end h p1 i.1
  obtain ⟨w, e2, k2⟩ := u_X9_end g p1 i.2.1
  have hn := IC_n i.1
  have t1 := i.2.2.1.1
  have f := w_f_X8_end _ _ _ e1
  have k := w_f_X9_end _ _ _ e2
  refine ⟨z.1, z.2, w.1, w.2, e1, e2, ?_⟩
  have key : TAP z.2 w.2 ∧ z.1 = w.1 := by
    unfold f_X8_end f_X8_end_15 at e1
    unfold f_X9_end at e2
    rw [← t1] at e2
    obtain ⟨r1, e3, e2⟩ := ob1_some e2
    have no : z = (-1, h) → w = (-1, g) → TAP z.2 w.2 ∧ z.1 = w.1 := by
      intro a b
      rw [a, b]
      exact ⟨i.2.2.1, rfl⟩
    rcases mx_in e3 with ⟨rfl, q⟩ | ⟨rfl, q⟩
    · rw [if_pos rfl] at e2
      refine no ?_ (Option.some.inj e2).symm
      by_cases c1 : p1 < 0
      · rw [if_pos c1] at e1; exact (Option.some.inj e1).symm
      · rw [if_neg c1] at e1
        have d1 := gi_of_nlt c1
        rw [if_neg (fun y => q ⟨by omega, gi_of_le y⟩)] at e1
        exact (Option.some.inj e1).symm
    · rw [if_neg (by decide)] at e2
      rw [if_neg (fun y => by have := gi_of_lt y; omega), if_pos (gi_le q.2)] at e1
      cases e1
      cases e2
      refine ⟨⟨rfl, fun j j0 j1 => ?_⟩, rfl⟩
      have j1 : j < p1.toInt := j1
      exact i.2.2.1.2 j j0 (by unfold cL; omega)
  exact ⟨inv_gen i f k (by decide) (by decide) (by decide) (by decide) (by decide) (by decide) k1.1.1 k2.1.1 key.1, fun _ => key.2⟩
theorem ls_fault (c : Prop) : LS_fault c Inv := by
  intro h g p1 i
  obtain ⟨z, e1, k1⟩ := u_X8_fault h p1 i.1
  obtain ⟨w, e2, k2⟩ := u_X9_fault g p1 i.2.1
  refine ⟨z.1, z.2, w.1, w.2, e1, e2, by rw [k1.1, k2.1]; exact i, fun _ => ?_⟩
  unfold f_X8_fault f_X8_fault_28 at e1
  unfold f_X9_fault f_X9_fault_24 at e2
  by_cases c0 : p1 = 0
  · rw [if_pos c0] at e1 e2
    cases e1
    cases e2
    exact i.2.2.2.1.1
  · rw [if_neg c0] at e1 e2
    by_cases c1 : p1 = 1
    · rw [if_pos c1] at e1 e2
      cases e1
      cases e2
      exact i.2.2.2.1.2
    · rw [if_neg c1] at e1 e2
      cases e1
      cases e2
      rfl
theorem cpy0 {f s : Nat → Int32} {n k : Nat} (hk : k < n) : va_cpy f s 0 0 n k = f k := by
  unfold va_cpy
  rw [if_pos (by omega), Nat.zero_add, Nat.sub_zero]
theorem ls_image (c : Prop) : LS_image c Inv := by
  intro h g i
  obtain ⟨z, e1, k1⟩ := u_X8_image h i.1
  obtain ⟨w, e2, k2⟩ := u_X9_image g i.2.1
  have f := w_f_X8_image _ _ e1
  have k := w_f_X9_image _ _ e2
  refine ⟨z.1, z.2, w.1, w.2, e1, e2, ?_⟩
  have tp := TAP_fr i.2.2.1 f k (by decide) (by decide) (by decide) (by decide)
  have n0 : eI z.2 5 0 = eI w.2 0 4 := by rw [f.1 5 0 (by decide), k.1 0 4 (by decide)]; exact i.2.2.2.1.1
  have n1 : eI z.2 5 1 = eI w.2 0 5 := by rw [f.1 5 1 (by decide), k.1 0 5 (by decide)]; exact i.2.2.2.1.2
  unfold f_X9_image at e2
  obtain ⟨b, e4, e5⟩ := ob1_some e2
  obtain ⟨b', e6, c1, c2, c3⟩ := u_X9_copies_1 g i.2.1.1 i.2.1.2.2.2.1 i.2.1.2.2.2.2 i.2.1.2.1
  obtain rfl : b' = b := by rw [e4] at e6; cases e6; rfl
  have s := i.2.2.2.2.1
  have wv : w = (eA b' 0 0 121, b') := (Option.some.inj e5).symm
  have w0 : eA w.2 0 0 = eA g 0 0 := by rw [wv]; exact c2
  have w1 : ∀ k : Nat, k < 1990 → eA w.2 0 1 k = eA g 0 0 k := by rw [wv]; exact c3
  have S1 : STD z.2 w.2 := by
    refine ⟨?_, ?_, ?_⟩
    · rw [w0]; exact SRel_fr s.1 f (by decide)
    · rw [w0]; exact s.2.1
    · rw [w0]; exact TXS_fr s.2.2 f k (by decide) (by decide)
  have e3 : some _ = some z := e1
  have zv := (Option.some.inj e3).symm
  refine ⟨⟨k1, k2, tp, ⟨n0, n1⟩, S1, ⟨?_, ?_⟩, ?_⟩, fun _ => ?_⟩
  · rw [zv]
    exact SR_copy (h := h) (o := 1) (o' := 2) s.1 s.2.1.1 w1 rfl rfl rfl rfl rfl rfl rfl rfl rfl rfl (fun k hk => cpy0 hk) (fun k hk => cpy0 hk) (fun k hk => cpy0 hk)
  · exact RG_copy s.2.1 w1
  · rw [w1 3 (by decide), w0]; exact Int.le_refl _
  · have d : eI h 1 7 = eA g 0 0 121 := s.1.1.2.2.2.2.1
    rw [wv, c2, zv]
    exact d
theorem ls_back (c : Prop) : LS_back c Inv := by
  intro h g i
  obtain ⟨z, e1, k1⟩ := u_X8_back h i.1
  obtain ⟨w, e2, k2⟩ := u_X9_back g i.2.1
  have f := w_f_X8_back _ _ e1
  have k := w_f_X9_back _ _ e2
  refine ⟨z.1, z.2, w.1, w.2, e1, e2, ?_⟩
  have tp := TAP_fr i.2.2.1 f k (by decide) (by decide) (by decide) (by decide)
  have n0 : eI z.2 5 0 = eI w.2 0 4 := by rw [f.1 5 0 (by decide), k.1 0 4 (by decide)]; exact i.2.2.2.1.1
  have n1 : eI z.2 5 1 = eI w.2 0 5 := by rw [f.1 5 1 (by decide), k.1 0 5 (by decide)]; exact i.2.2.2.1.2
  unfold f_X9_back at e2
  obtain ⟨b, e4, e5⟩ := ob1_some e2
  obtain ⟨b', e6, c1, c2, c3⟩ := u_X9_copies_0 g i.2.1
  obtain rfl : b' = b := by rw [e4] at e6; cases e6; rfl
  have s := i.2.2.2.2.1
  obtain ⟨p1, p2⟩ := i.2.2.2.2.2.1
  have wv : w = (eA b' 0 0 121, b') := (Option.some.inj e5).symm
  have w1 : eA w.2 0 1 = eA g 0 1 := by rw [wv]; exact c2
  have w0 : ∀ k : Nat, k < 1990 → eA w.2 0 0 k = eA g 0 1 k := by rw [wv]; exact c3
  have e3 : some _ = some z := e1
  have zv := (Option.some.inj e3).symm
  have R : SRel z.2 1 (eA w.2 0 0) := by
    rw [zv]
    exact SR_copy (h := h) (o := 2) (o' := 1) p1 p2.1 w0 rfl rfl rfl rfl rfl rfl rfl rfl rfl rfl (fun k hk => cpy0 hk) (fun k hk => cpy0 hk) (fun k hk => cpy0 hk)
  refine ⟨⟨k1, k2, tp, ⟨n0, n1⟩, ⟨R, RG_copy p2 w0, ?_⟩, ⟨?_, ?_⟩, ?_⟩, fun _ => ?_⟩
  · rw [w0 3 (by decide)]
    exact TXS_fr (TXS_mono s.2.2 i.2.2.2.2.2.2) f k (by decide) (by decide)
  · rw [w1]; exact SRel_fr p1 f (by decide)
  · rw [w1]; exact p2
  · rw [w1, w0 3 (by decide)]; exact Int.le_refl _
  · have d : eI h 2 7 = eA g 0 1 121 := p1.1.2.2.2.2.1
    have q := w0 121 (by decide)
    rw [wv] at q ⊢
    rw [zv]
    show eI h 2 7 = eA b' 0 0 121
    rw [d]
    exact q.symm
theorem tx_fin_0 {c : Prop} {h g h3 h4 : HS} {z w : Int32 × HS} (i : Inv h g) (hz : IC z.2) (hw : IM w.2) (gn : (eA g 0 0 3).toInt = 0) (a3 : f_X7_split h = some h3) (a4 : f_X2_parse_0 h3 = some h4) (X : TXO 9 0 h4 g w) (ty : eI h4 5 0 = 0 → TYL 9 h4) (e : (if eI h4 5 0 = 0 then some (eI h4 1 9 + 1 - 1, sI (sI h4 3 1 0) 1 9 (eI h4 1 9 + 1)) else some (-1, sI h4 3 1 0)) = some z) : Inv z.2 w.2 ∧ (c → z.1 = w.1) := by
  have y1 : (1 : Int32).toInt = 1 := rfl
  obtain ⟨-, -, i0, -, s, ⟨p1, p2⟩, p3⟩ := id i
  have fs := w_f_X7_split _ _ a3
  have fp := w_f_X2_parse_0 _ _ a4
  have s9 : eI h 1 9 = eA g 0 0 3 := s.1.1.2.2.2.2.2.2.1
  have SR4 : ∀ A : Nat → Int32, SRel h 1 A → SRel h4 1 A := fun A x => SRel_fr (SRel_fr x fs (by decide)) fp (by decide)
  have SK4 : ∀ A : Nat → Int32, SRel h 2 A → SRel h4 2 A := fun A x => SRel_fr (SRel_fr x fs (by decide)) fp (by decide)
  have q1 : eI h4 1 9 = eI h 1 9 := (fp.1 1 9 (by decide)).trans (fs.1 1 9 (by decide))
  have tx := s.2.2
  rw [gn] at tx
  obtain ⟨S4, hS4, f4⟩ : ∃ S4 : CL, (∀ y ∈ ([] : CL), y ∉ S4) ∧ Fr S4 h h4 := ⟨S_X7_split ++ S_X2_parse_0, by decide, Fr_trans (Fr_mono (fun x hx => List.mem_append_left _ hx) fs) (Fr_mono (fun x hx => List.mem_append_right _ hx) fp)⟩
  have rn := s.2.1.1
  unfold RN at rn
  rcases X with ⟨x1, x2, x3, x4, x5, x6⟩ | ⟨x1, x2, x3, x4, x5, x6, x7, x8, x9⟩
  · rw [if_neg x1] at e
    have zv : z = (-1, sI h4 3 1 0) := (Option.some.inj e).symm
    have w0 : eA w.2 0 0 = eA g 0 0 := x6.2.1 0 0 (by decide)
    have w1 : eA w.2 0 1 = eA g 0 1 := x6.2.1 0 1 (by decide)
    have fz : Fr [(0, 3, 1)] h4 z.2 := by rw [zv]; exact Fr_sI (by decide) (Fr_refl _ _)
    refine ⟨⟨hz, hw, ⟨?_, fun j j0 j1 => ?_⟩, ⟨?_, ?_⟩, ⟨?_, ?_, ?_⟩, ⟨?_, ?_⟩, ?_⟩, fun _ => ?_⟩
    · rw [zv]; exact x5.symm
    · have j1 : j < cL z.2 := j1
      rw [zv] at j1
      have j1 : j < (0 : Int32).toInt := j1
      have : (0 : Int32).toInt = 0 := rfl
      omega
    · rw [fz.1 5 0 (by decide)]; exact x3.symm
    · rw [fz.1 5 1 (by decide)]; exact x4.symm
    · rw [w0]; exact SRel_fr (SR4 _ s.1) fz (by decide)
    · rw [w0]; exact s.2.1
    · rw [w0, gn]
      exact TXS_fr (txs_bad_0 tx f4 x6 hS4 (by decide)) fz (Fr_refl [] _) (by decide) (by decide)
    · rw [w1]; exact SRel_fr (SK4 _ p1) fz (by decide)
    · rw [w1]; exact p2
    · rw [w0, w1]; exact p3
    · rw [zv]; exact x2.symm
  · rw [if_pos x1] at e
    have zv : z = (eI h4 1 9 + 1 - 1, sI (sI h4 3 1 0) 1 9 (eI h4 1 9 + 1)) := (Option.some.inj e).symm
    have fz : Fr [(0, 3, 1), (0, 1, 9)] h4 z.2 := by rw [zv]; exact Fr_sI (by decide) (Fr_sI (by decide) (Fr_refl _ _))
    have u : ∀ k : Nat, ¬ k = 3 → eA w.2 0 0 k = eA g 0 0 k := fun k hk => by rw [x6]; exact ud_ne hk
    have u3 : eA w.2 0 0 3 = eA g 0 0 3 + 1 := by rw [x6]; exact ud_eq
    have a3' := fb_addI (x := eA g 0 0 3) (y := 1) (by omega) (by omega)
    have z9 : eI z.2 1 9 = eA w.2 0 0 3 := by
      rw [zv, u3]
      show eI h4 1 9 + 1 = _
      rw [q1, s9]
    have sc := (SR4 _ s.1).1
    have US : ∀ k : Nat, ¬ k = 2 → ¬ k = 3 → ¬ k = 4 → ¬ k = 120 → ¬ k = 122 → eA w.2 0 0 k = eA g 0 0 k := fun k _ b _ _ _ => u k b
    refine ⟨⟨hz, hw, ⟨?_, fun j j0 j1 => ?_⟩, ⟨?_, ?_⟩, ⟨?_, ?_, ?_⟩, ⟨?_, ?_⟩, ?_⟩, fun _ => ?_⟩
    · rw [zv]; exact x5.symm
    · have j1 : j < cL z.2 := j1
      rw [zv] at j1
      have j1 : j < (0 : Int32).toInt := j1
      have : (0 : Int32).toInt = 0 := rfl
      omega
    · rw [fz.1 5 0 (by decide), x1]; exact x3.symm
    · rw [fz.1 5 1 (by decide)]; exact x4.symm
    · have fz1 : Fr [(0, 1, 5), (0, 1, 6), (0, 1, 8), (0, 1, 9), (0, 1, 10)] (sI h4 3 1 0) z.2 := by rw [zv]; exact Fr_sI (by decide) (Fr_refl _ _)
      have s31 : SRel (sI h4 3 1 0) 1 (eA g 0 0) := SRel_fr (SR4 _ s.1) (Fr_sI (S := [(0, 3, 1)]) (by decide) (Fr_refl _ _)) (by decide)
      have sc := s31.1
      exact SR_scal s31 s.2.1.1.1.2 s.2.1.1.2.1.2 US fz1 (by rw [fz.1 1 5 (by decide), u 120 (by decide)]; exact sc.2.2.1) (by rw [fz.1 1 6 (by decide), u 2 (by decide)]; exact sc.2.2.2.1) (by rw [fz.1 1 8 (by decide), u 122 (by decide)]; exact sc.2.2.2.2.2.1) z9 (by rw [fz.1 1 10 (by decide), u 4 (by decide)]; exact sc.2.2.2.2.2.2.2.1)
    · exact RG_scal s.2.1 US (by rw [u 2 (by decide)]; omega) (by rw [u3]; omega) (by rw [u3, u 4 (by decide)]; omega) (by rw [u 120 (by decide)]; exact s.2.1.2.2.1.1)
    · rw [u3, show (eA g 0 0 3 + 1).toInt = 1 by omega]
      exact TXS_fr (txs_new_0 tx f4 hS4 x8 x7 (ty x1)) fz (Fr_refl [] _) (by decide) (by decide)
    · rw [x9]; exact SRel_fr (SK4 _ p1) fz (by decide)
    · rw [x9]; exact p2
    · rw [x9, u3]; omega
    · rw [zv]
      show eI h4 1 9 + 1 - 1 = w.1
      rw [i32_ps, q1, x2, s9]
theorem tx_fin_1 {c : Prop} {h g h3 h4 : HS} {z w : Int32 × HS} (i : Inv h g) (hz : IC z.2) (hw : IM w.2) (gn : (eA g 0 0 3).toInt = 1) (a3 : f_X7_split h = some h3) (a4 : f_X2_parse_1 h3 = some h4) (X : TXO 10 1 h4 g w) (ty : eI h4 5 0 = 0 → TYL 10 h4) (e : (if eI h4 5 0 = 0 then some (eI h4 1 9 + 1 - 1, sI (sI h4 3 1 0) 1 9 (eI h4 1 9 + 1)) else some (-1, sI h4 3 1 0)) = some z) : Inv z.2 w.2 ∧ (c → z.1 = w.1) := by
  have y1 : (1 : Int32).toInt = 1 := rfl
  obtain ⟨-, -, i0, -, s, ⟨p1, p2⟩, p3⟩ := id i
  have fs := w_f_X7_split _ _ a3
  have fp := w_f_X2_parse_1 _ _ a4
  have s9 : eI h 1 9 = eA g 0 0 3 := s.1.1.2.2.2.2.2.2.1
  have SR4 : ∀ A : Nat → Int32, SRel h 1 A → SRel h4 1 A := fun A x => SRel_fr (SRel_fr x fs (by decide)) fp (by decide)
  have SK4 : ∀ A : Nat → Int32, SRel h 2 A → SRel h4 2 A := fun A x => SRel_fr (SRel_fr x fs (by decide)) fp (by decide)
  have q1 : eI h4 1 9 = eI h 1 9 := (fp.1 1 9 (by decide)).trans (fs.1 1 9 (by decide))
  have tx := s.2.2
  rw [gn] at tx
  obtain ⟨S4, hS4, f4⟩ : ∃ S4 : CL, (∀ y ∈ ([(0, 9, 1), (0, 9, 5), (1, 9, 0), (1, 9, 2), (1, 9, 3), (1, 9, 4)] : CL), y ∉ S4) ∧ Fr S4 h h4 := ⟨S_X7_split ++ S_X2_parse_1, by decide, Fr_trans (Fr_mono (fun x hx => List.mem_append_left _ hx) fs) (Fr_mono (fun x hx => List.mem_append_right _ hx) fp)⟩
  have rn := s.2.1.1
  unfold RN at rn
  rcases X with ⟨x1, x2, x3, x4, x5, x6⟩ | ⟨x1, x2, x3, x4, x5, x6, x7, x8, x9⟩
  · rw [if_neg x1] at e
    have zv : z = (-1, sI h4 3 1 0) := (Option.some.inj e).symm
    have w0 : eA w.2 0 0 = eA g 0 0 := x6.2.1 0 0 (by decide)
    have w1 : eA w.2 0 1 = eA g 0 1 := x6.2.1 0 1 (by decide)
    have fz : Fr [(0, 3, 1)] h4 z.2 := by rw [zv]; exact Fr_sI (by decide) (Fr_refl _ _)
    refine ⟨⟨hz, hw, ⟨?_, fun j j0 j1 => ?_⟩, ⟨?_, ?_⟩, ⟨?_, ?_, ?_⟩, ⟨?_, ?_⟩, ?_⟩, fun _ => ?_⟩
    · rw [zv]; exact x5.symm
    · have j1 : j < cL z.2 := j1
      rw [zv] at j1
      have j1 : j < (0 : Int32).toInt := j1
      have : (0 : Int32).toInt = 0 := rfl
      omega
    · rw [fz.1 5 0 (by decide)]; exact x3.symm
    · rw [fz.1 5 1 (by decide)]; exact x4.symm
    · rw [w0]; exact SRel_fr (SR4 _ s.1) fz (by decide)
    · rw [w0]; exact s.2.1
    · rw [w0, gn]
      exact TXS_fr (txs_bad_1 tx f4 x6 hS4 (by decide)) fz (Fr_refl [] _) (by decide) (by decide)
    · rw [w1]; exact SRel_fr (SK4 _ p1) fz (by decide)
    · rw [w1]; exact p2
    · rw [w0, w1]; exact p3
    · rw [zv]; exact x2.symm
  · rw [if_pos x1] at e
    have zv : z = (eI h4 1 9 + 1 - 1, sI (sI h4 3 1 0) 1 9 (eI h4 1 9 + 1)) := (Option.some.inj e).symm
    have fz : Fr [(0, 3, 1), (0, 1, 9)] h4 z.2 := by rw [zv]; exact Fr_sI (by decide) (Fr_sI (by decide) (Fr_refl _ _))
    have u : ∀ k : Nat, ¬ k = 3 → eA w.2 0 0 k = eA g 0 0 k := fun k hk => by rw [x6]; exact ud_ne hk
    have u3 : eA w.2 0 0 3 = eA g 0 0 3 + 1 := by rw [x6]; exact ud_eq
    have a3' := fb_addI (x := eA g 0 0 3) (y := 1) (by omega) (by omega)
    have z9 : eI z.2 1 9 = eA w.2 0 0 3 := by
      rw [zv, u3]
      show eI h4 1 9 + 1 = _
      rw [q1, s9]
    have sc := (SR4 _ s.1).1
    have US : ∀ k : Nat, ¬ k = 2 → ¬ k = 3 → ¬ k = 4 → ¬ k = 120 → ¬ k = 122 → eA w.2 0 0 k = eA g 0 0 k := fun k _ b _ _ _ => u k b
    refine ⟨⟨hz, hw, ⟨?_, fun j j0 j1 => ?_⟩, ⟨?_, ?_⟩, ⟨?_, ?_, ?_⟩, ⟨?_, ?_⟩, ?_⟩, fun _ => ?_⟩
    · rw [zv]; exact x5.symm
    · have j1 : j < cL z.2 := j1
      rw [zv] at j1
      have j1 : j < (0 : Int32).toInt := j1
      have : (0 : Int32).toInt = 0 := rfl
      omega
    · rw [fz.1 5 0 (by decide), x1]; exact x3.symm
    · rw [fz.1 5 1 (by decide)]; exact x4.symm
    · have fz1 : Fr [(0, 1, 5), (0, 1, 6), (0, 1, 8), (0, 1, 9), (0, 1, 10)] (sI h4 3 1 0) z.2 := by rw [zv]; exact Fr_sI (by decide) (Fr_refl _ _)
      have s31 : SRel (sI h4 3 1 0) 1 (eA g 0 0) := SRel_fr (SR4 _ s.1) (Fr_sI (S := [(0, 3, 1)]) (by decide) (Fr_refl _ _)) (by decide)
      have sc := s31.1
      exact SR_scal s31 s.2.1.1.1.2 s.2.1.1.2.1.2 US fz1 (by rw [fz.1 1 5 (by decide), u 120 (by decide)]; exact sc.2.2.1) (by rw [fz.1 1 6 (by decide), u 2 (by decide)]; exact sc.2.2.2.1) (by rw [fz.1 1 8 (by decide), u 122 (by decide)]; exact sc.2.2.2.2.2.1) z9 (by rw [fz.1 1 10 (by decide), u 4 (by decide)]; exact sc.2.2.2.2.2.2.2.1)
    · exact RG_scal s.2.1 US (by rw [u 2 (by decide)]; omega) (by rw [u3]; omega) (by rw [u3, u 4 (by decide)]; omega) (by rw [u 120 (by decide)]; exact s.2.1.2.2.1.1)
    · rw [u3, show (eA g 0 0 3 + 1).toInt = 2 by omega]
      exact TXS_fr (txs_new_1 tx f4 hS4 x8 x7 (ty x1)) fz (Fr_refl [] _) (by decide) (by decide)
    · rw [x9]; exact SRel_fr (SK4 _ p1) fz (by decide)
    · rw [x9]; exact p2
    · rw [x9, u3]; omega
    · rw [zv]
      show eI h4 1 9 + 1 - 1 = w.1
      rw [i32_ps, q1, x2, s9]
theorem tx_fin_2 {c : Prop} {h g h3 h4 : HS} {z w : Int32 × HS} (i : Inv h g) (hz : IC z.2) (hw : IM w.2) (gn : (eA g 0 0 3).toInt = 2) (a3 : f_X7_split h = some h3) (a4 : f_X2_parse_2 h3 = some h4) (X : TXO 11 2 h4 g w) (ty : eI h4 5 0 = 0 → TYL 11 h4) (e : (if eI h4 5 0 = 0 then some (eI h4 1 9 + 1 - 1, sI (sI h4 3 1 0) 1 9 (eI h4 1 9 + 1)) else some (-1, sI h4 3 1 0)) = some z) : Inv z.2 w.2 ∧ (c → z.1 = w.1) := by
  have y1 : (1 : Int32).toInt = 1 := rfl
  obtain ⟨-, -, i0, -, s, ⟨p1, p2⟩, p3⟩ := id i
  have fs := w_f_X7_split _ _ a3
  have fp := w_f_X2_parse_2 _ _ a4
  have s9 : eI h 1 9 = eA g 0 0 3 := s.1.1.2.2.2.2.2.2.1
  have SR4 : ∀ A : Nat → Int32, SRel h 1 A → SRel h4 1 A := fun A x => SRel_fr (SRel_fr x fs (by decide)) fp (by decide)
  have SK4 : ∀ A : Nat → Int32, SRel h 2 A → SRel h4 2 A := fun A x => SRel_fr (SRel_fr x fs (by decide)) fp (by decide)
  have q1 : eI h4 1 9 = eI h 1 9 := (fp.1 1 9 (by decide)).trans (fs.1 1 9 (by decide))
  have tx := s.2.2
  rw [gn] at tx
  obtain ⟨S4, hS4, f4⟩ : ∃ S4 : CL, (∀ y ∈ ([(0, 9, 1), (0, 9, 5), (1, 9, 0), (1, 9, 2), (1, 9, 3), (1, 9, 4), (0, 10, 1), (0, 10, 5), (1, 10, 0), (1, 10, 2), (1, 10, 3), (1, 10, 4)] : CL), y ∉ S4) ∧ Fr S4 h h4 := ⟨S_X7_split ++ S_X2_parse_2, by decide, Fr_trans (Fr_mono (fun x hx => List.mem_append_left _ hx) fs) (Fr_mono (fun x hx => List.mem_append_right _ hx) fp)⟩
  have rn := s.2.1.1
  unfold RN at rn
  rcases X with ⟨x1, x2, x3, x4, x5, x6⟩ | ⟨x1, x2, x3, x4, x5, x6, x7, x8, x9⟩
  · rw [if_neg x1] at e
    have zv : z = (-1, sI h4 3 1 0) := (Option.some.inj e).symm
    have w0 : eA w.2 0 0 = eA g 0 0 := x6.2.1 0 0 (by decide)
    have w1 : eA w.2 0 1 = eA g 0 1 := x6.2.1 0 1 (by decide)
    have fz : Fr [(0, 3, 1)] h4 z.2 := by rw [zv]; exact Fr_sI (by decide) (Fr_refl _ _)
    refine ⟨⟨hz, hw, ⟨?_, fun j j0 j1 => ?_⟩, ⟨?_, ?_⟩, ⟨?_, ?_, ?_⟩, ⟨?_, ?_⟩, ?_⟩, fun _ => ?_⟩
    · rw [zv]; exact x5.symm
    · have j1 : j < cL z.2 := j1
      rw [zv] at j1
      have j1 : j < (0 : Int32).toInt := j1
      have : (0 : Int32).toInt = 0 := rfl
      omega
    · rw [fz.1 5 0 (by decide)]; exact x3.symm
    · rw [fz.1 5 1 (by decide)]; exact x4.symm
    · rw [w0]; exact SRel_fr (SR4 _ s.1) fz (by decide)
    · rw [w0]; exact s.2.1
    · rw [w0, gn]
      exact TXS_fr (txs_bad_2 tx f4 x6 hS4 (by decide)) fz (Fr_refl [] _) (by decide) (by decide)
    · rw [w1]; exact SRel_fr (SK4 _ p1) fz (by decide)
    · rw [w1]; exact p2
    · rw [w0, w1]; exact p3
    · rw [zv]; exact x2.symm
  · rw [if_pos x1] at e
    have zv : z = (eI h4 1 9 + 1 - 1, sI (sI h4 3 1 0) 1 9 (eI h4 1 9 + 1)) := (Option.some.inj e).symm
    have fz : Fr [(0, 3, 1), (0, 1, 9)] h4 z.2 := by rw [zv]; exact Fr_sI (by decide) (Fr_sI (by decide) (Fr_refl _ _))
    have u : ∀ k : Nat, ¬ k = 3 → eA w.2 0 0 k = eA g 0 0 k := fun k hk => by rw [x6]; exact ud_ne hk
    have u3 : eA w.2 0 0 3 = eA g 0 0 3 + 1 := by rw [x6]; exact ud_eq
    have a3' := fb_addI (x := eA g 0 0 3) (y := 1) (by omega) (by omega)
    have z9 : eI z.2 1 9 = eA w.2 0 0 3 := by
      rw [zv, u3]
      show eI h4 1 9 + 1 = _
      rw [q1, s9]
    have sc := (SR4 _ s.1).1
    have US : ∀ k : Nat, ¬ k = 2 → ¬ k = 3 → ¬ k = 4 → ¬ k = 120 → ¬ k = 122 → eA w.2 0 0 k = eA g 0 0 k := fun k _ b _ _ _ => u k b
    refine ⟨⟨hz, hw, ⟨?_, fun j j0 j1 => ?_⟩, ⟨?_, ?_⟩, ⟨?_, ?_, ?_⟩, ⟨?_, ?_⟩, ?_⟩, fun _ => ?_⟩
    · rw [zv]; exact x5.symm
    · have j1 : j < cL z.2 := j1
      rw [zv] at j1
      have j1 : j < (0 : Int32).toInt := j1
      have : (0 : Int32).toInt = 0 := rfl
      omega
    · rw [fz.1 5 0 (by decide), x1]; exact x3.symm
    · rw [fz.1 5 1 (by decide)]; exact x4.symm
    · have fz1 : Fr [(0, 1, 5), (0, 1, 6), (0, 1, 8), (0, 1, 9), (0, 1, 10)] (sI h4 3 1 0) z.2 := by rw [zv]; exact Fr_sI (by decide) (Fr_refl _ _)
      have s31 : SRel (sI h4 3 1 0) 1 (eA g 0 0) := SRel_fr (SR4 _ s.1) (Fr_sI (S := [(0, 3, 1)]) (by decide) (Fr_refl _ _)) (by decide)
      have sc := s31.1
      exact SR_scal s31 s.2.1.1.1.2 s.2.1.1.2.1.2 US fz1 (by rw [fz.1 1 5 (by decide), u 120 (by decide)]; exact sc.2.2.1) (by rw [fz.1 1 6 (by decide), u 2 (by decide)]; exact sc.2.2.2.1) (by rw [fz.1 1 8 (by decide), u 122 (by decide)]; exact sc.2.2.2.2.2.1) z9 (by rw [fz.1 1 10 (by decide), u 4 (by decide)]; exact sc.2.2.2.2.2.2.2.1)
    · exact RG_scal s.2.1 US (by rw [u 2 (by decide)]; omega) (by rw [u3]; omega) (by rw [u3, u 4 (by decide)]; omega) (by rw [u 120 (by decide)]; exact s.2.1.2.2.1.1)
    · rw [u3, show (eA g 0 0 3 + 1).toInt = 3 by omega]
      exact TXS_fr (txs_new_2 tx f4 hS4 x8 x7 (ty x1)) fz (Fr_refl [] _) (by decide) (by decide)
    · rw [x9]; exact SRel_fr (SK4 _ p1) fz (by decide)
    · rw [x9]; exact p2
    · rw [x9, u3]; omega
    · rw [zv]
      show eI h4 1 9 + 1 - 1 = w.1
      rw [i32_ps, q1, x2, s9]
theorem tx_fin_3 {c : Prop} {h g h3 h4 : HS} {z w : Int32 × HS} (i : Inv h g) (hz : IC z.2) (hw : IM w.2) (gn : (eA g 0 0 3).toInt = 3) (a3 : f_X7_split h = some h3) (a4 : f_X2_parse_3 h3 = some h4) (X : TXO 12 3 h4 g w) (ty : eI h4 5 0 = 0 → TYL 12 h4) (e : (if eI h4 5 0 = 0 then some (eI h4 1 9 + 1 - 1, sI (sI h4 3 1 0) 1 9 (eI h4 1 9 + 1)) else some (-1, sI h4 3 1 0)) = some z) : Inv z.2 w.2 ∧ (c → z.1 = w.1) := by
  have y1 : (1 : Int32).toInt = 1 := rfl
  obtain ⟨-, -, i0, -, s, ⟨p1, p2⟩, p3⟩ := id i
  have fs := w_f_X7_split _ _ a3
  have fp := w_f_X2_parse_3 _ _ a4
  have s9 : eI h 1 9 = eA g 0 0 3 := s.1.1.2.2.2.2.2.2.1
  have SR4 : ∀ A : Nat → Int32, SRel h 1 A → SRel h4 1 A := fun A x => SRel_fr (SRel_fr x fs (by decide)) fp (by decide)
  have SK4 : ∀ A : Nat → Int32, SRel h 2 A → SRel h4 2 A := fun A x => SRel_fr (SRel_fr x fs (by decide)) fp (by decide)
  have q1 : eI h4 1 9 = eI h 1 9 := (fp.1 1 9 (by decide)).trans (fs.1 1 9 (by decide))
  have tx := s.2.2
  rw [gn] at tx
  obtain ⟨S4, hS4, f4⟩ : ∃ S4 : CL, (∀ y ∈ ([(0, 9, 1), (0, 9, 5), (1, 9, 0), (1, 9, 2), (1, 9, 3), (1, 9, 4), (0, 10, 1), (0, 10, 5), (1, 10, 0), (1, 10, 2), (1, 10, 3), (1, 10, 4), (0, 11, 1), (0, 11, 5), (1, 11, 0), (1, 11, 2), (1, 11, 3), (1, 11, 4)] : CL), y ∉ S4) ∧ Fr S4 h h4 := ⟨S_X7_split ++ S_X2_parse_3, by decide, Fr_trans (Fr_mono (fun x hx => List.mem_append_left _ hx) fs) (Fr_mono (fun x hx => List.mem_append_right _ hx) fp)⟩
  have rn := s.2.1.1
  unfold RN at rn
  rcases X with ⟨x1, x2, x3, x4, x5, x6⟩ | ⟨x1, x2, x3, x4, x5, x6, x7, x8, x9⟩
  · rw [if_neg x1] at e
    have zv : z = (-1, sI h4 3 1 0) := (Option.some.inj e).symm
    have w0 : eA w.2 0 0 = eA g 0 0 := x6.2.1 0 0 (by decide)
    have w1 : eA w.2 0 1 = eA g 0 1 := x6.2.1 0 1 (by decide)
    have fz : Fr [(0, 3, 1)] h4 z.2 := by rw [zv]; exact Fr_sI (by decide) (Fr_refl _ _)
    refine ⟨⟨hz, hw, ⟨?_, fun j j0 j1 => ?_⟩, ⟨?_, ?_⟩, ⟨?_, ?_, ?_⟩, ⟨?_, ?_⟩, ?_⟩, fun _ => ?_⟩
    · rw [zv]; exact x5.symm
    · have j1 : j < cL z.2 := j1
      rw [zv] at j1
      have j1 : j < (0 : Int32).toInt := j1
      have : (0 : Int32).toInt = 0 := rfl
      omega
    · rw [fz.1 5 0 (by decide)]; exact x3.symm
    · rw [fz.1 5 1 (by decide)]; exact x4.symm
    · rw [w0]; exact SRel_fr (SR4 _ s.1) fz (by decide)
    · rw [w0]; exact s.2.1
    · rw [w0, gn]
      exact TXS_fr (txs_bad_3 tx f4 x6 hS4 (by decide)) fz (Fr_refl [] _) (by decide) (by decide)
    · rw [w1]; exact SRel_fr (SK4 _ p1) fz (by decide)
    · rw [w1]; exact p2
    · rw [w0, w1]; exact p3
    · rw [zv]; exact x2.symm
  · rw [if_pos x1] at e
    have zv : z = (eI h4 1 9 + 1 - 1, sI (sI h4 3 1 0) 1 9 (eI h4 1 9 + 1)) := (Option.some.inj e).symm
    have fz : Fr [(0, 3, 1), (0, 1, 9)] h4 z.2 := by rw [zv]; exact Fr_sI (by decide) (Fr_sI (by decide) (Fr_refl _ _))
    have u : ∀ k : Nat, ¬ k = 3 → eA w.2 0 0 k = eA g 0 0 k := fun k hk => by rw [x6]; exact ud_ne hk
    have u3 : eA w.2 0 0 3 = eA g 0 0 3 + 1 := by rw [x6]; exact ud_eq
    have a3' := fb_addI (x := eA g 0 0 3) (y := 1) (by omega) (by omega)
    have z9 : eI z.2 1 9 = eA w.2 0 0 3 := by
      rw [zv, u3]
      show eI h4 1 9 + 1 = _
      rw [q1, s9]
    have sc := (SR4 _ s.1).1
    have US : ∀ k : Nat, ¬ k = 2 → ¬ k = 3 → ¬ k = 4 → ¬ k = 120 → ¬ k = 122 → eA w.2 0 0 k = eA g 0 0 k := fun k _ b _ _ _ => u k b
    refine ⟨⟨hz, hw, ⟨?_, fun j j0 j1 => ?_⟩, ⟨?_, ?_⟩, ⟨?_, ?_, ?_⟩, ⟨?_, ?_⟩, ?_⟩, fun _ => ?_⟩
    · rw [zv]; exact x5.symm
    · have j1 : j < cL z.2 := j1
      rw [zv] at j1
      have j1 : j < (0 : Int32).toInt := j1
      have : (0 : Int32).toInt = 0 := rfl
      omega
    · rw [fz.1 5 0 (by decide), x1]; exact x3.symm
    · rw [fz.1 5 1 (by decide)]; exact x4.symm
    · have fz1 : Fr [(0, 1, 5), (0, 1, 6), (0, 1, 8), (0, 1, 9), (0, 1, 10)] (sI h4 3 1 0) z.2 := by rw [zv]; exact Fr_sI (by decide) (Fr_refl _ _)
      have s31 : SRel (sI h4 3 1 0) 1 (eA g 0 0) := SRel_fr (SR4 _ s.1) (Fr_sI (S := [(0, 3, 1)]) (by decide) (Fr_refl _ _)) (by decide)
      have sc := s31.1
      exact SR_scal s31 s.2.1.1.1.2 s.2.1.1.2.1.2 US fz1 (by rw [fz.1 1 5 (by decide), u 120 (by decide)]; exact sc.2.2.1) (by rw [fz.1 1 6 (by decide), u 2 (by decide)]; exact sc.2.2.2.1) (by rw [fz.1 1 8 (by decide), u 122 (by decide)]; exact sc.2.2.2.2.2.1) z9 (by rw [fz.1 1 10 (by decide), u 4 (by decide)]; exact sc.2.2.2.2.2.2.2.1)
    · exact RG_scal s.2.1 US (by rw [u 2 (by decide)]; omega) (by rw [u3]; omega) (by rw [u3, u 4 (by decide)]; omega) (by rw [u 120 (by decide)]; exact s.2.1.2.2.1.1)
    · rw [u3, show (eA g 0 0 3 + 1).toInt = 4 by omega]
      exact TXS_fr (txs_new_3 tx f4 hS4 x8 x7 (ty x1)) fz (Fr_refl [] _) (by decide) (by decide)
    · rw [x9]; exact SRel_fr (SK4 _ p1) fz (by decide)
    · rw [x9]; exact p2
    · rw [x9, u3]; omega
    · rw [zv]
      show eI h4 1 9 + 1 - 1 = w.1
      rw [i32_ps, q1, x2, s9]
theorem ls_text (c : Prop) : LS_text c Inv := by
  intro h g i
  obtain ⟨z, e1, k1⟩ := u_X8_text h i.1
  obtain ⟨w, e2, k2⟩ := u_X9_text g i.2.1
  have hn := IC_n i.1
  have hm := IM_n i.2.1
  have cn : eI h 1 9 = eA g 0 0 3 := i.2.2.2.2.1.1.1.2.2.2.2.2.2.1
  have dn := gi_of_eq cn
  have y0 : (0 : Int32).toInt = 0 := rfl
  have y1 : (1 : Int32).toInt = 1 := rfl
  have y2 : (2 : Int32).toInt = 2 := rfl
  have y3 : (3 : Int32).toInt = 3 := rfl
  have y4 : (4 : Int32).toInt = 4 := rfl
  refine ⟨z.1, z.2, w.1, w.2, e1, e2, ?_⟩
  unfold f_X8_text at e1
  have l0 : 0 ≤ cL h := by unfold cL; omega
  have l1 : cL h ≤ 300 := by unfold cL; omega
  by_cases c0 : eI h 1 9 = 0
  · rw [if_pos c0] at e1
    obtain ⟨h3, a3, e1⟩ := ob1_some e1
    obtain ⟨h4, a4, e1⟩ := ob1_some e1
    exact tx_fin_0 i k1.1.1 k2.1 (by rw [← cn, c0]; rfl) a3 a4 (text_0 l0 l1 i.2.2.1 (by rw [← cn, c0]; rfl) a3 a4 e2) (fun q => typ_text_0 l0 l1 a3 a4 q) e1
  · rw [if_neg c0] at e1
    have d0 := gi_of_ne c0
    by_cases c1 : eI h 1 9 = 1
    · rw [if_pos c1] at e1
      obtain ⟨h3, a3, e1⟩ := ob1_some e1
      obtain ⟨h4, a4, e1⟩ := ob1_some e1
      exact tx_fin_1 i k1.1.1 k2.1 (by rw [← cn, c1]; rfl) a3 a4 (text_1 l0 l1 i.2.2.1 (by rw [← cn, c1]; rfl) a3 a4 e2) (fun q => typ_text_1 l0 l1 a3 a4 q) e1
    · rw [if_neg c1] at e1
      have d1 := gi_of_ne c1
      by_cases c2 : eI h 1 9 = 2
      · rw [if_pos c2] at e1
        obtain ⟨h3, a3, e1⟩ := ob1_some e1
        obtain ⟨h4, a4, e1⟩ := ob1_some e1
        exact tx_fin_2 i k1.1.1 k2.1 (by rw [← cn, c2]; rfl) a3 a4 (text_2 l0 l1 i.2.2.1 (by rw [← cn, c2]; rfl) a3 a4 e2) (fun q => typ_text_2 l0 l1 a3 a4 q) e1
      · rw [if_neg c2] at e1
        have d2 := gi_of_ne c2
        by_cases c3 : eI h 1 9 = 3
        · rw [if_pos c3] at e1
          obtain ⟨h3, a3, e1⟩ := ob1_some e1
          obtain ⟨h4, a4, e1⟩ := ob1_some e1
          exact tx_fin_3 i k1.1.1 k2.1 (by rw [← cn, c3]; rfl) a3 a4 (text_3 l0 l1 i.2.2.1 (by rw [← cn, c3]; rfl) a3 a4 e2) (fun q => typ_text_3 l0 l1 a3 a4 q) e1
        · rw [if_neg c3] at e1
          have d3 := gi_of_ne c3
          cases e1
          unfold f_X9_text at e2
          rw [if_pos (gi_eq (by omega))] at e2
          cases e2
          exact ⟨i, fun _ => rfl⟩
theorem ls_market (c : Prop) : LS_market c Inv := fun h g p1 p2 p3 i => inv_deed i (u_X8_market h p1 p2 p3 i.1) (u_X9_market g p1 p2 p3 i.2.1) (w_f_X8_market h p1 p2 p3) (w_f_X9_market g p1 p2 p3) (by decide) (by decide) (by decide) (by decide) (by decide) (by decide) (fun z k => k) (fun z k => k.1) (fun z w e1 e2 => j_market_call i.2.2.2.2.1.1 i.2.2.2.2.1.2.1 e1 e2)
theorem ls_goose (c : Prop) : LS_goose c Inv := fun h g p1 p2 i => inv_deed i (u_X8_goose h p1 p2 i.1) (u_X9_goose g p1 p2 i.2.1) (w_f_X8_goose h p1 p2) (w_f_X9_goose g p1 p2) (by decide) (by decide) (by decide) (by decide) (by decide) (by decide) (fun z k => k) (fun z k => k.1) (fun z w e1 e2 => j_goose i.2.2.2.2.1.1 i.2.2.2.2.1.2.1 e1 e2)
theorem ls_store (c : Prop) : LS_store c Inv := fun h g p1 p2 i => inv_deed i (u_X8_store h p1 p2 i.1) (u_X9_store g p1 p2 i.2.1) (w_f_X8_store h p1 p2) (w_f_X9_store g p1 p2) (by decide) (by decide) (by decide) (by decide) (by decide) (by decide) (fun z k => k.1.1) (fun z k => k.1.1) (fun z w e1 e2 => j_store i.2.2.2.2.1.1 i.2.2.2.2.1.2.1 e1 e2)
theorem ls_seed (c : Prop) : LS_seed c Inv := fun h g p1 i => inv_deed i (u_X8_seed h p1 i.1) (u_X9_seed g p1 i.2.1) (w_f_X8_seed h p1) (w_f_X9_seed g p1) (by decide) (by decide) (by decide) (by decide) (by decide) (by decide) (fun z k => k.1.1) (fun z k => k.1.1) (fun z w e1 e2 => j_seed i.2.2.2.2.1.1 i.2.2.2.2.1.2.1 e1 e2)
theorem ls_fill (c : Prop) : LS_fill c Inv := fun h g p1 p2 p3 i => inv_deed i (u_X8_fill h p1 p2 p3 i.1) (u_X9_fill g p1 p2 p3 i.2.1) (w_f_X8_fill h p1 p2 p3) (w_f_X9_fill g p1 p2 p3) (by decide) (by decide) (by decide) (by decide) (by decide) (by decide) (fun z k => k.1.1) (fun z k => k.1.1) (fun z w e1 e2 => j_fill i.2.2.2.2.1 e1 e2)
theorem ls_send (c : Prop) : LS_send c Inv := fun h g p1 p2 i => inv_deed i (u_X8_send h p1 p2 i.1) (u_X9_send g p1 p2 i.2.1) (w_f_X8_send h p1 p2) (w_f_X9_send g p1 p2) (by decide) (by decide) (by decide) (by decide) (by decide) (by decide) (fun z k => k.1.1) (fun z k => k.1.1) (fun z w e1 e2 => j_send i.2.2.2.2.1.1 i.2.2.2.2.1.2.1 e1 e2)
theorem ls_fatten (c : Prop) : LS_fatten c Inv := fun h g p1 i => inv_deed i (u_X8_fatten h p1 i.1) (u_X9_fatten g p1 i.2.1) (w_f_X8_fatten h p1) (w_f_X9_fatten g p1) (by decide) (by decide) (by decide) (by decide) (by decide) (by decide) (fun z k => k.1.1) (fun z k => k.1.1) (fun z w e1 e2 => j_fatten i.2.2.2.2.1.1 i.2.2.2.2.1.2.1 e1 e2)
theorem ls_pluck (c : Prop) : LS_pluck c Inv := fun h g p1 i => inv_deed i (u_X8_pluck h p1 i.1) (u_X9_pluck g p1 i.2.1) (w_f_X8_pluck h p1) (w_f_X9_pluck g p1) (by decide) (by decide) (by decide) (by decide) (by decide) (by decide) (fun z k => k.1.1) (fun z k => k.1.1) (fun z w e1 e2 => j_pluck i.2.2.2.2.1.1 i.2.2.2.2.1.2.1 e1 e2)
theorem ls_name (c : Prop) : LS_name c Inv := fun h g p1 i => inv_deed i (u_X8_name h p1 i.1) (u_X9_name g p1 i.2.1) (w_f_X8_name h p1) (w_f_X9_name g p1) (by decide) (by decide) (by decide) (by decide) (by decide) (by decide) (fun z k => k.1.1) (fun z k => k.1.1) (fun z w e1 e2 => j_name i.2.2.2.2.1.1 i.2.2.2.2.1.2.1 e1 e2)
theorem ls_pass (c : Prop) : LS_pass c Inv := fun h g p1 i => inv_deed i (u_X8_pass h p1 i.1) (u_X9_pass g p1 i.2.1) (w_f_X8_pass h p1) (w_f_X9_pass g p1) (by decide) (by decide) (by decide) (by decide) (by decide) (by decide) (fun z k => k.1.1) (fun z k => k.1.1) (fun z w e1 e2 => j_pass i.2.2.2.2.1 e1 e2)
theorem ls_by (c : Prop) : LS_by c Inv := fun h g p1 i => inv_deed i (u_X8_by h p1 i.1) (u_X9_by g p1 i.2.1) (w_f_X8_by h p1) (w_f_X9_by g p1) (by decide) (by decide) (by decide) (by decide) (by decide) (by decide) (fun z k => k.1.1) (fun z k => k) (fun z w e1 e2 => j_by i.2.2.2.2.1.1 i.2.2.2.2.1.2.1 e1 e2)
theorem ls_played (c : Prop) : LS_played c Inv := fun h g p1 i => inv_deed i (u_X8_played h p1 i.1) (u_X9_played g p1 i.2.1) (w_f_X8_played h p1) (w_f_X9_played g p1) (by decide) (by decide) (by decide) (by decide) (by decide) (by decide) (fun z k => k.1.1) (fun z k => k.1.1) (fun z w e1 e2 => j_played i.2.2.2.2.1 e1 e2)
theorem ls_undo (c : Prop) : LS_undo c Inv := fun h g  i => inv_deed i (u_X8_undo h  i.1) (u_X9_undo g  i.2.1) (w_f_X8_undo h ) (w_f_X9_undo g ) (by decide) (by decide) (by decide) (by decide) (by decide) (by decide) (fun z k => k.1.1) (fun z k => k.1.1) (fun z w e1 e2 => j_undo i.2.2.2.2.1.1 i.2.2.2.2.1.2.1 e1 e2)
theorem ls_of (c : Prop) : LS_of c Inv := fun h g p1 p2 i => inv_query i (u_X8_of h p1 p2 i.1) (u_X9_of g p1 p2 i.2.1) (w_f_X8_of h p1 p2) (w_f_X9_of g p1 p2) (by decide) (by decide) (by decide) (by decide) (by decide) (by decide) (fun z k => k.1.1) (fun z k => k.1.1) (fun z w e1 e2 _ => j_of i.2.2.2.2.1 e1 e2)
theorem ls_ink (c : Prop) : LS_ink c Inv := fun h g p1 p2 p3 i => inv_query i (u_X8_ink h p1 p2 p3 i.1) (u_X9_ink g p1 p2 p3 i.2.1) (w_f_X8_ink h p1 p2 p3) (w_f_X9_ink g p1 p2 p3) (by decide) (by decide) (by decide) (by decide) (by decide) (by decide) (fun z k => k.1.1) (fun z k => k.1.1) (fun z w e1 e2 _ => j_inkcall i.2.2.2.2.1 e1 e2)
theorem ls_known (c : Prop) : LS_known c Inv := fun h g p1 p2 i => inv_query i (u_X8_known h p1 p2 i.1) (u_X9_known g p1 p2 i.2.1) (w_f_X8_known h p1 p2) (w_f_X9_known g p1 p2) (by decide) (by decide) (by decide) (by decide) (by decide) (by decide) (fun z k => k.1.1) (fun z k => k.1.1) (fun z w e1 e2 _ => j_known i.2.2.2.2.1 e1 e2)
theorem ls_led (c : Prop) : LS_led c Inv := fun h g p1 p2 i => inv_query i (u_X8_led h p1 p2 i.1) (u_X9_led g p1 p2 i.2.1) (w_f_X8_led h p1 p2) (w_f_X9_led g p1 p2) (by decide) (by decide) (by decide) (by decide) (by decide) (by decide) (fun z k => k.1.1) (fun z k => k.1.1) (fun z w e1 e2 _ => j_led i.1 i.2.1 i.2.2.2.2.1 e1 e2)
theorem ls_answer (c : Prop) : LS_answer c Inv := fun h g p1 i => inv_query i (u_X8_answer h p1 i.1) (u_X9_answer g p1 i.2.1) (w_f_X8_answer h p1) (w_f_X9_answer g p1) (by decide) (by decide) (by decide) (by decide) (by decide) (by decide) (fun z k => k.1.1) (fun z k => k.1.1) (fun z w e1 e2 _ => j_answer i.1 i.2.1 i.2.2.2.2.1 e1 e2)
theorem ls_plucks (c : Prop) : LS_plucks c Inv := fun h g p1 i => inv_query i (u_X8_plucks h p1 i.1) (u_X9_plucks g p1 i.2.1) (w_f_X8_plucks h p1) (w_f_X9_plucks g p1) (by decide) (by decide) (by decide) (by decide) (by decide) (by decide) (fun z k => k.1.1) (fun z k => k.1.1) (fun z w e1 e2 _ => j_plucks i.2.2.2.2.1 e1 e2)
theorem ls_odds (c : Prop) : LS_odds c Inv := fun h g p1 p2 p3 i => inv_query i (u_X8_odds h p1 p2 p3 i.1) (u_X9_odds g p1 p2 p3 i.2.1) (w_f_X8_odds h p1 p2 p3) (w_f_X9_odds g p1 p2 p3) (by decide) (by decide) (by decide) (by decide) (by decide) (by decide) (fun z k => k.1.1) (fun z k => k.1.1) (fun z w e1 e2 _ => j_odds i.1 i.2.1 i.2.2.2.2.1 e1 e2)
theorem ls_plan : LS_plan (24 = 23) Inv := fun h g p1 p2 p3 i => inv_query i (u_X8_plan h p1 p2 p3 i.1) (u_X9_plan g p1 p2 p3 i.2.1) (w_f_X8_plan h p1 p2 p3) (w_f_X9_plan g p1 p2 p3) (by decide) (by decide) (by decide) (by decide) (by decide) (by decide) (fun z k => k.1.1) (fun z k => k.1) (fun z w e1 e2 q => absurd q (by decide))
theorem ls_holds (c : Prop) : LS_holds c Inv := fun h g  i => inv_query i (u_X8_holds h  i.1) (u_X9_holds g  i.2.1) (w_f_X8_holds h ) (w_f_X9_holds g ) (by decide) (by decide) (by decide) (by decide) (by decide) (by decide) (fun z k => by rw [k.1]; exact i.1) (fun z k => by rw [k.1]; exact i.2.1) (fun z w e1 e2 _ => j_holds i.2.2.2.2.1 e1 e2)
theorem ls_about (c : Prop) : LS_about c Inv := fun h g p1 i => inv_query i (u_X8_about h p1 i.1) (u_X9_about g p1 i.2.1) (w_f_X8_about h p1) (w_f_X9_about g p1) (by decide) (by decide) (by decide) (by decide) (by decide) (by decide) (fun z k => by rw [k.1]; exact i.1) (fun z k => by rw [k.1]; exact i.2.1) (fun z w e1 e2 _ => j_about i.2.2.2.2.1 i.2.2.1.1 e1 e2)
theorem law_step : LawStep (fun k => k = 23) Inv := ⟨ls_market _, ls_goose _, ls_store _, ls_seed _, ls_fill _, ls_send _, ls_fatten _, ls_pluck _, ls_name _, ls_pass _, ls_feed _, ls_end _, ls_text _, ls_fault _, ls_by _, ls_played _, ls_undo _, ls_of _, ls_ink _, ls_known _, ls_led _, ls_answer _, ls_plucks _, ls_odds _, ls_plan, ls_holds _, ls_image _, ls_back _, ls_about _⟩
