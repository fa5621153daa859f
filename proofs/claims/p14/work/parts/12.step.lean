def Inv (h g : HS) : Prop := IC h ∧ IM g ∧ TAP h g ∧ (eI h 1 9 = eA g 0 0 3 ∧ eI h 2 9 = eA g 0 1 3) ∧ (eI h 5 0 = eI g 0 4 ∧ eI h 5 1 = eI g 0 5)
theorem TAP_fr {S T : CL} {h h' g g' : HS} (t : TAP h g) (f : Fr S h h') (k : Fr T g g') (h1 : (0, 3, 1) ∉ S) (h2 : (1, 3, 0) ∉ S) (h3 : (0, 0, 3) ∉ T) (h4 : (1, 0, 2) ∉ T) : TAP h' g' := by
  unfold TAP cL cB mB at *
  rw [f.1 3 1 h1, f.2.1 3 0 h2, k.1 0 3 h3, k.2.1 0 2 h4]
  exact t
abbrev KS : CL := [(0, 3, 1), (1, 3, 0), (0, 1, 9), (0, 2, 9), (0, 5, 0), (0, 5, 1)]
abbrev KT : CL := [(0, 0, 3), (1, 0, 2), (0, 0, 4), (0, 0, 5), (1, 0, 1)]
theorem lp_keep {α : Type} {S T : CL} {x y : Option (α × HS)} {P Q : α × HS → Prop} {c : Prop} {h g : HS} (i : Inv h g) (a : ok x P) (b : ok y Q) (fx : pk x (fun a => Fr S h a.2)) (fy : pk y (fun a => Fr T g a.2)) (hS : ∀ x ∈ KS, x ∉ S) (hT : ∀ x ∈ KT, x ∉ T) (hp : ∀ z, P z → IC z.2) (hq : ∀ z, Q z → IM z.2 ∧ eA z.2 0 0 3 = eA g 0 0 3) (hc : ¬ c) : ∃ (r1 : α) (h1 : HS) (r2 : α) (g1 : HS), x = some (r1, h1) ∧ y = some (r2, g1) ∧ Inv h1 g1 ∧ (c → r1 = r2) := by
  obtain ⟨z, e1, k1⟩ := a
  obtain ⟨w, e2, k2⟩ := b
  have f := fx z e1
  have k := fy w e2
  obtain ⟨i1, i2, i3, ⟨i4, i5⟩, i6, i7⟩ := i
  refine ⟨z.1, z.2, w.1, w.2, e1, e2, ⟨hp z k1, (hq w k2).1, TAP_fr i3 f k (hS _ (by decide)) (hS _ (by decide)) (hT _ (by decide)) (hT _ (by decide)), ⟨?_, ?_⟩, ?_, ?_⟩, fun h => absurd h hc⟩
  · rw [f.1 1 9 (hS _ (by decide)), (hq w k2).2]; exact i4
  · rw [f.1 2 9 (hS _ (by decide)), k.2.1 0 1 (hT _ (by decide))]; exact i5
  · rw [f.1 5 0 (hS _ (by decide)), k.1 0 4 (hT _ (by decide))]; exact i6
  · rw [f.1 5 1 (hS _ (by decide)), k.1 0 5 (hT _ (by decide))]; exact i7
theorem m3_market (g : HS) (p1 p2 p3 : Int32) (hI : IM g) : ok (f_X9_market g p1 p2 p3) (fun a => IM a.2 ∧ eA a.2 0 0 3 = eA g 0 0 3) := by
  obtain ⟨z, e, k⟩ := u_X9_market g p1 p2 p3 hI
  refine ⟨z, e, k.1, ?_⟩
  have z4 : (4 : Int32).toInt = 4 := rfl; have z10 : (10 : Int32).toInt = 10 := rfl; have z1 : (1 : Int32).toInt = 1 := rfl; have z2 : (2 : Int32).toInt = 2 := rfl
  have hn := IM_n hI
  have main : pk (f_X9_market g p1 p2 p3) (fun a => eA a.2 0 0 3 = eA g 0 0 3) := by
    unfold f_X9_market f_X9_market_40
    refine pk_obf (fun r => pk_if (fun _ => pk_some rfl) (fun _ => ?_))
    refine pk_obf (fun r => pk_if (fun _ => pk_some rfl) (fun _ => ?_))
    refine pk_obf (fun r => pk_if (fun _ => pk_some rfl) (fun _ => ?_))
    refine pk_if (fun _ => pk_some rfl) (fun _ => ?_)
    have a1 : (3 * eA g 0 0 0).toInt = 3 * (eA g 0 0 0).toInt := fb_mulJ rfl (by omega) (by omega)
    have a2 : (10 + 3 * eA g 0 0 0).toInt = 10 + 3 * (eA g 0 0 0).toInt := by rw [fb_addI (by omega) (by omega)]; omega
    have b0 : (10 + 3 * eA g 0 0 0).toNatClampNeg = 10 + 3 * (eA g 0 0 0).toInt.toNat := by rw [Int32.toNatClampNeg]; omega
    have a3 : (10 + 3 * eA g 0 0 0 + 1).toInt = 10 + 3 * (eA g 0 0 0).toInt + 1 := by rw [fb_addI (by omega) (by omega)]; omega
    have b1 : (10 + 3 * eA g 0 0 0 + 1).toNatClampNeg = 10 + 3 * (eA g 0 0 0).toInt.toNat + 1 := by rw [Int32.toNatClampNeg]; omega
    have a4 : (10 + 3 * eA g 0 0 0 + 2).toInt = 10 + 3 * (eA g 0 0 0).toInt + 2 := by rw [fb_addI (by omega) (by omega)]; omega
    have b2 : (10 + 3 * eA g 0 0 0 + 2).toNatClampNeg = 10 + 3 * (eA g 0 0 0).toInt.toNat + 2 := by rw [Int32.toNatClampNeg]; omega
    refine pk_chk (fun _ => pk_chk (fun _ => pk_chk (fun _ => ?_)))
    rw [b0, b1, b2]
    refine pk_some ?_
    generalize hv : (upd (upd (upd (eA g 0 0) (10 + 3 * (eA g 0 0 0).toInt.toNat) p1) (10 + 3 * (eA g 0 0 0).toInt.toNat + 1) p2) (10 + 3 * (eA g 0 0 0).toInt.toNat + 2) p3) = F
    show upd F 0 (F 0 + 1) 3 = eA g 0 0 3
    rw [← hv]
    unfold upd
    rw [if_neg (by decide), if_neg (by omega), if_neg (by omega), if_neg (by omega)]
  exact main z e
theorem m3_goose_49 {h0 : HS} (x1 x2 : Int32) (w : (eA h0 0 0 1).toInt ≤ 9) (q : 0 ≤ x2.toInt ∧ x2.toInt ≤ 99) : ∀ (n : Nat) (h : HS) (x3 : Int32), SW h0 h → 0 ≤ x3.toInt → 0 < n → (20 - (x3).toInt : Int) < (n : Int) → ok (f_X9_goose_49 n h x1 x2 x3) (fun a => eA a.2 0 0 3 = eA h0 0 0 3) := by
  intro n
  induction n with
  | zero => intro h x3 s i0 hn hm; exact absurd hn (by decide)
  | succ n ih =>
    intro h x3 s i0 hn hm
    rw [f_X9_goose_49_s]
    have hn := IM_n s.1
    have eg := s.2.2.1
    have z1 : (1 : Int32).toInt = 1 := rfl; have z93 : (93 : Int32).toInt = 93 := rfl; have z130 : (130 : Int32).toInt = 130 := rfl
    refine ok_if (fun c => ok_some ?_) (fun c => ?_)
    · show upd (eA h 0 0) 1 (eA h 0 0 1 + 1) 3 = _
      unfold upd
      rw [if_neg (by decide)]
      exact s.2.2.2
    · have d := gi_of_nle c
      have m1 : (93 * x3).toInt = 93 * x3.toInt := fb_mulJ rfl (by omega) (by omega)
      have a1 : (130 + 93 * x3).toInt = 130 + 93 * x3.toInt := by rw [fb_addI (by omega) (by omega)]; omega
      have a2 := fb_addI (x := x3) (y := 1) (by omega) (by omega)
      refine ok_ob1 (u_X9_tellsGoose h (130 + 93 * x3) (eA h 0 0 1) x1 x2 (130 + 93 * x3.toInt.toNat) s.1 (by omega) (Or.inr ⟨x3.toInt.toNat, by omega, rfl⟩) (by rw [eg]; rw [eg] at hn; omega) q) (fun h8 k8 => ?_)
      exact ih h8 (x3 + 1) (SW_trans s k8.1) (by omega) (by omega) (by omega)
theorem m3_goose (h : HS) (p1 p2 : Int32) (hI : IM h) : ok (f_X9_goose h p1 p2) (fun a => IM a.2 ∧ eA a.2 0 0 3 = eA h 0 0 3) := by
  obtain ⟨z, e, k⟩ := u_X9_goose h p1 p2 hI
  refine ⟨z, e, k.1, ?_⟩
  have main : ok (f_X9_goose h p1 p2) (fun a => eA a.2 0 0 3 = eA h 0 0 3) := by
    unfold f_X9_goose f_X9_goose_31
    refine ok_ob1 (u_X9_in p1 1 20) (fun r1 k1 => ok_if (fun c => ok_some rfl) (fun c1 => ?_))
    refine ok_ob1 (u_X9_in p2 0 99) (fun r3 k3 => ok_if (fun c => ok_some rfl) (fun c3 => ?_))
    refine ok_if (fun c => ok_some rfl) (fun c4 => ?_)
    have hn := IM_n hI
    have d4 := gi_of_ne c4; have d3 := gi_of_ne c3; have q3 := k3.2
    have z10 : (10 : Int32).toInt = 10 := rfl; have z0 : (0 : Int32).toInt = 0 := rfl; have z99 : (99 : Int32).toInt = 99 := rfl
    refine ok_ob1 (u_X9_tellsGoose h 30 (eA h 0 0 1) p1 p2 30 hI rfl (Or.inl rfl) (by omega) (by omega)) (fun h6 k6 => ?_)
    have e1 : eA h6 0 0 1 = eA h 0 0 1 := k6.1.2.2.1
    exact ok_mono (m3_goose_49 p1 p2 (by rw [e1]; omega) (by omega) _ h6 0 (SW_refl k6.1.1) (by decide) (by decide) (by omega)) (fun a k => k.trans k6.1.2.2.2)
  obtain ⟨z', e', k'⟩ := main
  rw [e] at e'
  cases e'
  exact k'
theorem ls_feed (c : Prop) : LS_feed c Inv := by
  intro h g p1 p2 p3 p4 p5 i
  obtain ⟨z, e1, k1⟩ := u_X8_feed h p1 p2 p3 p4 p5 i.1
  obtain ⟨w, e2, k2⟩ := u_X9_feed g p1 p2 p3 p4 p5 i.2.1
  have hn := IC_n i.1
  obtain ⟨t, q⟩ := feed_both e1 e2 i.2.2.1 (by unfold cL; omega) (by unfold cL; omega)
  have f := w_f_X8_feed _ _ _ _ _ _ _ e1
  have k := w_f_X9_feed _ _ _ _ _ _ _ e2
  refine ⟨z.1, z.2, w.1, w.2, e1, e2, ⟨k1.1.1, k2.1.1, t, ⟨?_, ?_⟩, ?_, ?_⟩, fun _ => q⟩
  · rw [f.1 1 9 (by decide), k.2.1 0 0 (by decide)]; exact i.2.2.2.1.1
  · rw [f.1 2 9 (by decide), k.2.1 0 1 (by decide)]; exact i.2.2.2.1.2
  · rw [f.1 5 0 (by decide), k.1 0 4 (by decide)]; exact i.2.2.2.2.1
  · rw [f.1 5 1 (by decide), k.1 0 5 (by decide)]; exact i.2.2.2.2.2
theorem ls_end (c : Prop) : LS_end c Inv := by
  intro h g p1 i
  have z0 : (0 : Int32).toInt = 0 := rfl
  obtain ⟨z, e1, k1⟩ := u_X8_end h p1 i.1
  obtain ⟨w, e2, k2⟩ := u_X9_end g p1 i.2.1
  have hn := IC_n i.1
  have t1 := i.2.2.1.1
  refine ⟨z.1, z.2, w.1, w.2, e1, e2, ?_⟩
  unfold f_X8_end f_X8_end_15 at e1
  unfold f_X9_end at e2
  rw [← t1] at e2
  obtain ⟨r1, e3, e2⟩ := ob1_some e2
  have no : z = (-1, h) → w = (-1, g) → Inv z.2 w.2 ∧ (c → z.1 = w.1) := by
    intro a b
    rw [a, b]
    exact ⟨i, fun _ => rfl⟩
  rcases mx_in e3 with ⟨rfl, q⟩ | ⟨rfl, q⟩
  · rw [if_pos rfl] at e2
    refine no ?_ (Option.some.inj e2).symm
    by_cases c1 : p1 < 0
    · rw [if_pos c1] at e1; exact (Option.some.inj e1).symm
    · rw [if_neg c1] at e1
      have d1 := gi_of_nlt c1
      rw [if_neg (fun y => q ⟨by omega, gi_of_le y⟩)] at e1
      exact (Option.some.inj e1).symm
  · rw [if_neg (by decide)] at e2
    rw [if_neg (fun y => by have := gi_of_lt y; omega), if_pos (gi_le q.2)] at e1
    cases e1
    cases e2
    refine ⟨⟨k1.1.1, k2.1.1, ⟨rfl, fun j j0 j1 => ?_⟩, i.2.2.2.1, i.2.2.2.2⟩, fun _ => rfl⟩
    have j1 : j < p1.toInt := j1
    exact i.2.2.1.2 j j0 (by unfold cL; omega)
theorem ls_fault (c : Prop) : LS_fault c Inv := by
  intro h g p1 i
  obtain ⟨z, e1, k1⟩ := u_X8_fault h p1 i.1
  obtain ⟨w, e2, k2⟩ := u_X9_fault g p1 i.2.1
  refine ⟨z.1, z.2, w.1, w.2, e1, e2, by rw [k1.1, k2.1]; exact i, fun _ => ?_⟩
  unfold f_X8_fault f_X8_fault_28 at e1
  unfold f_X9_fault f_X9_fault_24 at e2
  by_cases c0 : p1 = 0
  · rw [if_pos c0] at e1 e2
    cases e1
    cases e2
    exact i.2.2.2.2.1
  · rw [if_neg c0] at e1 e2
    by_cases c1 : p1 = 1
    · rw [if_pos c1] at e1 e2
      cases e1
      cases e2
      exact i.2.2.2.2.2
    · rw [if_neg c1] at e1 e2
      cases e1
      cases e2
      rfl
theorem ls_by (c : Prop) : LS_by c Inv := by
  intro h g p1 i
  have z0 : (0 : Int32).toInt = 0 := rfl
  have z1 : (1 : Int32).toInt = 1 := rfl
  have zm : (-1 : Int32).toInt = -1 := rfl
  obtain ⟨z, e1, k1⟩ := u_X8_by h p1 i.1
  obtain ⟨w, e2, k2⟩ := u_X9_by g p1 i.2.1
  have hm := IM_n i.2.1
  have cn := i.2.2.2.1.1
  have dn := gi_of_eq cn
  refine ⟨z.1, z.2, w.1, w.2, e1, e2, ?_⟩
  unfold f_X8_by f_X8_by_16 at e1
  unfold f_X9_by f_X9_by_23 at e2
  have no : z = (0, h) → w = (0, g) → Inv z.2 w.2 ∧ (c → z.1 = w.1) := by
    intro a b
    rw [a, b]
    exact ⟨i, fun _ => rfl⟩
  have yes : z = (1, sI h 1 10 p1) → w = (1, sA g 0 0 (upd (eA g 0 0) 4 p1)) → Inv z.2 w.2 ∧ (c → z.1 = w.1) := by
    intro a b
    rw [a] at k1
    rw [b] at k2
    rw [a, b]
    exact ⟨⟨k1.1.1, k2, i.2.2.1, i.2.2.2.1, i.2.2.2.2⟩, fun _ => rfl⟩
  by_cases cm : p1 = -1
  · rw [if_pos cm] at e2
    have d := gi_of_eq cm
    rw [if_neg (fun y => by have := gi_of_lt y; omega), if_pos (gi_lt (by omega))] at e1
    exact yes (Option.some.inj e1).symm (Option.some.inj e2).symm
  · rw [if_neg cm] at e2
    have d := gi_of_ne cm
    obtain ⟨r2, e3, e2⟩ := ob1_some e2
    have s := fb_subI (x := eA g 0 0 3) (y := 1) (by omega) (by omega)
    rcases mx_in e3 with ⟨rfl, q⟩ | ⟨rfl, q⟩
    · rw [if_pos rfl] at e2
      refine no ?_ (Option.some.inj e2).symm
      by_cases c1 : p1 < -1
      · rw [if_pos c1] at e1; exact (Option.some.inj e1).symm
      · rw [if_neg c1] at e1
        have d1 := gi_of_nlt c1
        rw [if_neg (fun y => by have := gi_of_lt y; omega)] at e1
        exact (Option.some.inj e1).symm
    · rw [if_neg (by decide)] at e2
      rw [if_neg (fun y => by have := gi_of_lt y; omega), if_pos (gi_lt (by omega))] at e1
      exact yes (Option.some.inj e1).symm (Option.some.inj e2).symm
theorem tx_fin {o t : Nat} {c : Prop} {h g h3 h4 : HS} {z w : Int32 × HS} {S T : CL} (i : Inv h g) (hz : IC z.2) (hw : IM w.2) (fs : Fr S h h3) (fp : Fr T h3 h4) (s1 : (0, 1, 9) ∉ S) (s2 : (0, 2, 9) ∉ S) (t1 : (0, 1, 9) ∉ T) (t2 : (0, 2, 9) ∉ T) (X : TXO o t h4 g w) (e : (if eI h4 5 0 = 0 then some (eI h4 1 9 + 1 - 1, sI (sI h4 3 1 0) 1 9 (eI h4 1 9 + 1)) else some (-1, sI h4 3 1 0)) = some z) : Inv z.2 w.2 ∧ (c → z.1 = w.1) := by
  have q1 : eI h4 1 9 = eI h 1 9 := (fp.1 1 9 t1).trans (fs.1 1 9 s1)
  have q2 : eI h4 2 9 = eI h 2 9 := (fp.1 2 9 t2).trans (fs.1 2 9 s2)
  rcases X with ⟨x1, x2, x3, x4, x5, x6⟩ | ⟨x1, x2, x3, x4, x5, x6, x7, x8, x9⟩
  · rw [if_neg x1] at e
    cases e
    refine ⟨⟨hz, hw, ⟨x5.symm, fun j j0 j1 => ?_⟩, ⟨?_, ?_⟩, x3.symm, x4.symm⟩, fun _ => x2.symm⟩
    · have j1 : j < (0 : Int32).toInt := j1
      have : (0 : Int32).toInt = 0 := rfl
      omega
    · show eI h4 1 9 = _
      rw [q1, x6.2.1 0 0 (by decide)]; exact i.2.2.2.1.1
    · show eI h4 2 9 = _
      rw [q2, x6.2.1 0 1 (by decide)]; exact i.2.2.2.1.2
  · rw [if_pos x1] at e
    cases e
    refine ⟨⟨hz, hw, ⟨x5.symm, fun j j0 j1 => ?_⟩, ⟨?_, ?_⟩, ?_, x4.symm⟩, fun _ => ?_⟩
    · have j1 : j < (0 : Int32).toInt := j1
      have : (0 : Int32).toInt = 0 := rfl
      omega
    · show eI h4 1 9 + 1 = _
      rw [q1, x6, i.2.2.2.1.1]
      rfl
    · show eI h4 2 9 = _
      rw [q2, x9]; exact i.2.2.2.1.2
    · show eI h4 5 0 = _
      rw [x1, x3]
    · show eI h4 1 9 + 1 - 1 = w.1
      rw [i32_ps, q1, x2]; exact i.2.2.2.1.1
theorem ls_text (c : Prop) : LS_text c Inv := by
  intro h g i
  obtain ⟨z, e1, k1⟩ := u_X8_text h i.1
  obtain ⟨w, e2, k2⟩ := u_X9_text g i.2.1
  have hn := IC_n i.1
  have hm := IM_n i.2.1
  have cn := i.2.2.2.1.1
  have dn := gi_of_eq cn
  have y0 : (0 : Int32).toInt = 0 := rfl
  have y1 : (1 : Int32).toInt = 1 := rfl
  have y2 : (2 : Int32).toInt = 2 := rfl
  have y3 : (3 : Int32).toInt = 3 := rfl
  have y4 : (4 : Int32).toInt = 4 := rfl
  refine ⟨z.1, z.2, w.1, w.2, e1, e2, ?_⟩
  unfold f_X8_text at e1
  have l0 : 0 ≤ cL h := by unfold cL; omega
  have l1 : cL h ≤ 300 := by unfold cL; omega
  by_cases c0 : eI h 1 9 = 0
  · rw [if_pos c0] at e1
    obtain ⟨h3, a3, e1⟩ := ob1_some e1
    obtain ⟨h4, a4, e1⟩ := ob1_some e1
    exact tx_fin i k1.1.1 k2.1 (w_f_X7_split _ _ a3) (w_f_X2_parse_0 _ _ a4) (by decide) (by decide) (by decide) (by decide) (text_0 l0 l1 i.2.2.1 (by rw [← cn, c0]; rfl) a3 a4 e2) e1
  · rw [if_neg c0] at e1
    have d0 := gi_of_ne c0
    by_cases c1 : eI h 1 9 = 1
    · rw [if_pos c1] at e1
      obtain ⟨h3, a3, e1⟩ := ob1_some e1
      obtain ⟨h4, a4, e1⟩ := ob1_some e1
      exact tx_fin i k1.1.1 k2.1 (w_f_X7_split _ _ a3) (w_f_X2_parse_1 _ _ a4) (by decide) (by decide) (by decide) (by decide) (text_1 l0 l1 i.2.2.1 (by rw [← cn, c1]; rfl) a3 a4 e2) e1
    · rw [if_neg c1] at e1
      have d1 := gi_of_ne c1
      by_cases c2 : eI h 1 9 = 2
      · rw [if_pos c2] at e1
        obtain ⟨h3, a3, e1⟩ := ob1_some e1
        obtain ⟨h4, a4, e1⟩ := ob1_some e1
        exact tx_fin i k1.1.1 k2.1 (w_f_X7_split _ _ a3) (w_f_X2_parse_2 _ _ a4) (by decide) (by decide) (by decide) (by decide) (text_2 l0 l1 i.2.2.1 (by rw [← cn, c2]; rfl) a3 a4 e2) e1
      · rw [if_neg c2] at e1
        have d2 := gi_of_ne c2
        by_cases c3 : eI h 1 9 = 3
        · rw [if_pos c3] at e1
          obtain ⟨h3, a3, e1⟩ := ob1_some e1
          obtain ⟨h4, a4, e1⟩ := ob1_some e1
          exact tx_fin i k1.1.1 k2.1 (w_f_X7_split _ _ a3) (w_f_X2_parse_3 _ _ a4) (by decide) (by decide) (by decide) (by decide) (text_3 l0 l1 i.2.2.1 (by rw [← cn, c3]; rfl) a3 a4 e2) e1
        · rw [if_neg c3] at e1
          have d3 := gi_of_ne c3
          cases e1
          unfold f_X9_text at e2
          rw [if_pos (gi_eq (by omega))] at e2
          cases e2
          exact ⟨i, fun _ => rfl⟩
theorem ls_market : LS_market (0 = 12) Inv := fun h g p1 p2 p3 i => lp_keep i (u_X8_market h p1 p2 p3 i.1) (m3_market g p1 p2 p3 i.2.1) (w_f_X8_market h p1 p2 p3) (w_f_X9_market g p1 p2 p3) (by decide) (by decide) (fun z k => k) (fun z k => k) (by decide)
theorem ls_goose : LS_goose (1 = 12) Inv := fun h g p1 p2 i => lp_keep i (u_X8_goose h p1 p2 i.1) (m3_goose g p1 p2 i.2.1) (w_f_X8_goose h p1 p2) (w_f_X9_goose g p1 p2) (by decide) (by decide) (fun z k => k) (fun z k => k) (by decide)
theorem ls_store : LS_store (2 = 12) Inv := fun h g p1 p2 i => lp_keep i (u_X8_store h p1 p2 i.1) (u_X9_store g p1 p2 i.2.1) (w_f_X8_store h p1 p2) (w_f_X9_store g p1 p2) (by decide) (by decide) (fun z k => k.1.1) (fun z k => ⟨k.1.1, k.1.2.2.2⟩) (by decide)
theorem ls_seed : LS_seed (3 = 12) Inv := fun h g p1 i => lp_keep i (u_X8_seed h p1 i.1) (u_X9_seed g p1 i.2.1) (w_f_X8_seed h p1) (w_f_X9_seed g p1) (by decide) (by decide) (fun z k => k.1.1) (fun z k => ⟨k.1.1, k.1.2.2.2⟩) (by decide)
theorem ls_fill : LS_fill (4 = 12) Inv := fun h g p1 p2 p3 i => lp_keep i (u_X8_fill h p1 p2 p3 i.1) (u_X9_fill g p1 p2 p3 i.2.1) (w_f_X8_fill h p1 p2 p3) (w_f_X9_fill g p1 p2 p3) (by decide) (by decide) (fun z k => k.1.1) (fun z k => ⟨k.1.1, k.1.2.2.2⟩) (by decide)
theorem ls_send : LS_send (5 = 12) Inv := fun h g p1 p2 i => lp_keep i (u_X8_send h p1 p2 i.1) (u_X9_send g p1 p2 i.2.1) (w_f_X8_send h p1 p2) (w_f_X9_send g p1 p2) (by decide) (by decide) (fun z k => k.1.1) (fun z k => ⟨k.1.1, k.1.2.2.2⟩) (by decide)
theorem ls_fatten : LS_fatten (6 = 12) Inv := fun h g p1 i => lp_keep i (u_X8_fatten h p1 i.1) (u_X9_fatten g p1 i.2.1) (w_f_X8_fatten h p1) (w_f_X9_fatten g p1) (by decide) (by decide) (fun z k => k.1.1) (fun z k => ⟨k.1.1, k.1.2.2.2⟩) (by decide)
theorem ls_pluck : LS_pluck (7 = 12) Inv := fun h g p1 i => lp_keep i (u_X8_pluck h p1 i.1) (u_X9_pluck g p1 i.2.1) (w_f_X8_pluck h p1) (w_f_X9_pluck g p1) (by decide) (by decide) (fun z k => k.1.1) (fun z k => ⟨k.1.1, k.1.2.2.2⟩) (by decide)
theorem ls_name : LS_name (8 = 12) Inv := fun h g p1 i => lp_keep i (u_X8_name h p1 i.1) (u_X9_name g p1 i.2.1) (w_f_X8_name h p1) (w_f_X9_name g p1) (by decide) (by decide) (fun z k => k.1.1) (fun z k => ⟨k.1.1, k.1.2.2.2⟩) (by decide)
theorem ls_pass : LS_pass (9 = 12) Inv := fun h g p1 i => lp_keep i (u_X8_pass h p1 i.1) (u_X9_pass g p1 i.2.1) (w_f_X8_pass h p1) (w_f_X9_pass g p1) (by decide) (by decide) (fun z k => k.1.1) (fun z k => ⟨k.1.1, k.1.2.2.2⟩) (by decide)
theorem ls_played : LS_played (15 = 12) Inv := fun h g p1 i => lp_keep i (u_X8_played h p1 i.1) (u_X9_played g p1 i.2.1) (w_f_X8_played h p1) (w_f_X9_played g p1) (by decide) (by decide) (fun z k => k.1.1) (fun z k => ⟨k.1.1, k.1.2.2.2⟩) (by decide)
theorem ls_undo : LS_undo (16 = 12) Inv := fun h g  i => lp_keep i (u_X8_undo h  i.1) (u_X9_undo g  i.2.1) (w_f_X8_undo h ) (w_f_X9_undo g ) (by decide) (by decide) (fun z k => k.1.1) (fun z k => ⟨k.1.1, k.1.2.2.2⟩) (by decide)
theorem ls_of : LS_of (17 = 12) Inv := fun h g p1 p2 i => lp_keep i (u_X8_of h p1 p2 i.1) (u_X9_of g p1 p2 i.2.1) (w_f_X8_of h p1 p2) (w_f_X9_of g p1 p2) (by decide) (by decide) (fun z k => k.1.1) (fun z k => ⟨k.1.1, by rw [k.1.2.1]⟩) (by decide)
theorem ls_ink : LS_ink (18 = 12) Inv := fun h g p1 p2 p3 i => lp_keep i (u_X8_ink h p1 p2 p3 i.1) (u_X9_ink g p1 p2 p3 i.2.1) (w_f_X8_ink h p1 p2 p3) (w_f_X9_ink g p1 p2 p3) (by decide) (by decide) (fun z k => k.1.1) (fun z k => ⟨k.1.1, by rw [k.1.2.1]⟩) (by decide)
theorem ls_known : LS_known (19 = 12) Inv := fun h g p1 p2 i => lp_keep i (u_X8_known h p1 p2 i.1) (u_X9_known g p1 p2 i.2.1) (w_f_X8_known h p1 p2) (w_f_X9_known g p1 p2) (by decide) (by decide) (fun z k => k.1.1) (fun z k => ⟨k.1.1, by rw [k.1.2.1]⟩) (by decide)
theorem ls_led : LS_led (20 = 12) Inv := fun h g p1 p2 i => lp_keep i (u_X8_led h p1 p2 i.1) (u_X9_led g p1 p2 i.2.1) (w_f_X8_led h p1 p2) (w_f_X9_led g p1 p2) (by decide) (by decide) (fun z k => k.1.1) (fun z k => ⟨k.1.1, by rw [k.1.2.1]⟩) (by decide)
theorem ls_answer : LS_answer (21 = 12) Inv := fun h g p1 i => lp_keep i (u_X8_answer h p1 i.1) (u_X9_answer g p1 i.2.1) (w_f_X8_answer h p1) (w_f_X9_answer g p1) (by decide) (by decide) (fun z k => k.1.1) (fun z k => ⟨k.1.1, by rw [k.1.2.1]⟩) (by decide)
theorem ls_plucks : LS_plucks (22 = 12) Inv := fun h g p1 i => lp_keep i (u_X8_plucks h p1 i.1) (u_X9_plucks g p1 i.2.1) (w_f_X8_plucks h p1) (w_f_X9_plucks g p1) (by decide) (by decide) (fun z k => k.1.1) (fun z k => ⟨k.1.1, by rw [k.1.2.1]⟩) (by decide)
theorem ls_odds : LS_odds (23 = 12) Inv := fun h g p1 p2 p3 i => lp_keep i (u_X8_odds h p1 p2 p3 i.1) (u_X9_odds g p1 p2 p3 i.2.1) (w_f_X8_odds h p1 p2 p3) (w_f_X9_odds g p1 p2 p3) (by decide) (by decide) (fun z k => k.1.1) (fun z k => ⟨k.1.1, by rw [k.1.2.1]⟩) (by decide)
theorem ls_plan : LS_plan (24 = 12) Inv := fun h g p1 p2 p3 i => lp_keep i (u_X8_plan h p1 p2 p3 i.1) (u_X9_plan g p1 p2 p3 i.2.1) (w_f_X8_plan h p1 p2 p3) (w_f_X9_plan g p1 p2 p3) (by decide) (by decide) (fun z k => k.1.1) (fun z k => ⟨k.1, by rw [k.2]⟩) (by decide)
theorem ls_holds : LS_holds (25 = 12) Inv := fun h g  i => lp_keep i (u_X8_holds h  i.1) (u_X9_holds g  i.2.1) (w_f_X8_holds h ) (w_f_X9_holds g ) (by decide) (by decide) (fun z k => by rw [k.1]; exact i.1) (fun z k => by rw [k.1]; exact ⟨i.2.1, rfl⟩) (by decide)
theorem ls_image : LS_image (26 = 12) Inv := by
  intro h g i
  obtain ⟨z, e1, k1⟩ := u_X8_image h i.1
  obtain ⟨w, e2, k2⟩ := u_X9_image g i.2.1
  refine ⟨z.1, z.2, w.1, w.2, e1, e2, ?_, fun h => absurd h (by decide)⟩
  have f := w_f_X8_image _ _ e1
  have k := w_f_X9_image _ _ e2
  have tp := TAP_fr i.2.2.1 f k (by decide) (by decide) (by decide) (by decide)
  have n0 : eI z.2 5 0 = eI w.2 0 4 := by rw [f.1 5 0 (by decide), k.1 0 4 (by decide)]; exact i.2.2.2.2.1
  have n1 : eI z.2 5 1 = eI w.2 0 5 := by rw [f.1 5 1 (by decide), k.1 0 5 (by decide)]; exact i.2.2.2.2.2
  have e3 : some _ = some z := e1
  cases e3
  unfold f_X9_image at e2
  obtain ⟨b, e4, e5⟩ := ob1_some e2
  obtain ⟨b', e6, c1, c2, c3⟩ := u_X9_copies_1 g i.2.1.1 i.2.1.2.2.2.1 i.2.1.2.2.2.2 i.2.1.2.1
  obtain rfl : b' = b := by rw [e4] at e6; cases e6; rfl
  cases e5
  refine ⟨k1, k2, tp, ⟨?_, ?_⟩, n0, n1⟩
  · show eI h 1 9 = eA b' 0 0 3; rw [c2]; exact i.2.2.2.1.1
  · show eI h 1 9 = eA b' 0 1 3; rw [c3 3 (by decide)]; exact i.2.2.2.1.1
theorem ls_back : LS_back (27 = 12) Inv := by
  intro h g i
  obtain ⟨z, e1, k1⟩ := u_X8_back h i.1
  obtain ⟨w, e2, k2⟩ := u_X9_back g i.2.1
  refine ⟨z.1, z.2, w.1, w.2, e1, e2, ?_, fun h => absurd h (by decide)⟩
  have f := w_f_X8_back _ _ e1
  have k := w_f_X9_back _ _ e2
  have tp := TAP_fr i.2.2.1 f k (by decide) (by decide) (by decide) (by decide)
  have n0 : eI z.2 5 0 = eI w.2 0 4 := by rw [f.1 5 0 (by decide), k.1 0 4 (by decide)]; exact i.2.2.2.2.1
  have n1 : eI z.2 5 1 = eI w.2 0 5 := by rw [f.1 5 1 (by decide), k.1 0 5 (by decide)]; exact i.2.2.2.2.2
  have e3 : some _ = some z := e1
  cases e3
  unfold f_X9_back at e2
  obtain ⟨b, e4, e5⟩ := ob1_some e2
  obtain ⟨b', e6, c1, c2, c3⟩ := u_X9_copies_0 g i.2.1
  obtain rfl : b' = b := by rw [e4] at e6; cases e6; rfl
  cases e5
  refine ⟨k1, k2, tp, ⟨?_, ?_⟩, n0, n1⟩
  · show eI h 2 9 = eA b' 0 0 3; rw [c3 3 (by decide)]; exact i.2.2.2.1.2
  · show eI h 2 9 = eA b' 0 1 3; rw [c2]; exact i.2.2.2.1.2
theorem ls_about : LS_about (28 = 12) Inv := fun h g p1 i => lp_keep i (u_X8_about h p1 i.1) (u_X9_about g p1 i.2.1) (w_f_X8_about h p1) (w_f_X9_about g p1) (by decide) (by decide) (fun z k => by rw [k.1]; exact i.1) (fun z k => by rw [k.1]; exact ⟨i.2.1, rfl⟩) (by decide)
theorem law_step : LawStep (fun k => k = 12) Inv := ⟨ls_market, ls_goose, ls_store, ls_seed, ls_fill, ls_send, ls_fatten, ls_pluck, ls_name, ls_pass, ls_feed _, ls_end _, ls_text _, ls_fault _, ls_by _, ls_played, ls_undo, ls_of, ls_ink, ls_known, ls_led, ls_answer, ls_plucks, ls_odds, ls_plan, ls_holds, ls_image, ls_back, ls_about⟩
