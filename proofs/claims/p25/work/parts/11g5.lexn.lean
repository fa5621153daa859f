theorem mx_173 {g2 g' : HS} {y2 : Int64} {y4 : Int32} {x : List Int} (e : f_X9_next_173 g2 y2 y4 = some g') (hx : DG x) (h4 : y4.toInt = (x.length : Int)) (h2 : y4.toInt ≤ 8 → y2.toInt = encA 0 x) : eI g' 0 15 = eI g2 0 15 ∧ eI g' 0 16 = eI g2 0 16 ∧ TK (wkind x) 0 (eI g' 0 17).toInt (eI g' 0 18).toInt := by
  have z8 : (8 : Int32).toInt = 8 := rfl
  have z0 : (0 : Int32).toInt = 0 := rfl
  have zm : (-1 : Int32).toInt = -1 := rfl
  have z1 : (1 : Int32).toInt = 1 := rfl
  have z4 : (4 : Int32).toInt = 4 := rfl
  unfold f_X9_next_173 at e
  have fin : ∀ (r : Int32), f_X9_next_189 g2 r = some g' → ((r.toInt = -1 ∧ wkind x = 1) ∨ (0 ≤ r.toInt ∧ wkind x = 16 + r.toInt)) → eI g' 0 15 = eI g2 0 15 ∧ eI g' 0 16 = eI g2 0 16 ∧ TK (wkind x) 0 (eI g' 0 17).toInt (eI g' 0 18).toInt := by
    intro r e hr
    have kr := wkind_rng x
    unfold f_X9_next_189 f_X9_next_205 f_X9_next_439 at e
    by_cases c : (0 : Int32) ≤ r
    · rw [if_pos c] at e
      cases e
      have d := gi_of_le c
      refine ⟨rfl, rfl, ?_⟩
      show TK (wkind x) 0 (1 : Int32).toInt r.toInt
      unfold TK
      omega
    · rw [if_neg c] at e
      cases e
      have d := gi_of_nle c
      refine ⟨rfl, rfl, ?_⟩
      show TK (wkind x) 0 (4 : Int32).toInt r.toInt
      unfold TK
      omega
  by_cases c : y4 ≤ 8
  · rw [if_pos c] at e
    have d := gi_of_le c
    obtain ⟨r, e1, e⟩ := ob1_some e
    have k := mx_wordOf y2 r e1
    have k : r.toInt = wm WC y2.toInt 0 := k
    rw [h2 (by omega), WC_WL] at k
    have w := wm_wf WL x 0 hx WL_DG (by omega)
    refine fin r e ?_
    unfold wkind
    rw [k]
    exact w
  · rw [if_neg c] at e
    have d := gi_of_nle c
    exact fin (-1) e (Or.inl ⟨rfl, wkind_long (by omega)⟩)
theorem TK_v {k so t : Int} (h : TK k 0 so t) (n : ¬ k = 2) (v : Int) : TK k v so t := by
  unfold TK at *
  rcases h with h | h | h | h | h
  · exact Or.inl h
  · exact absurd h.1 n
  · exact Or.inr (Or.inr (Or.inl h))
  · exact Or.inr (Or.inr (Or.inr (Or.inl h)))
  · exact Or.inr (Or.inr (Or.inr (Or.inr h)))
def SIGN (m : Int) : Prop := (59 ≤ m ∧ m ≤ 62) ∨ (40 ≤ m ∧ m ≤ 45) ∨ m = 47 ∨ m = 35
theorem TK_sg {b m k v so : Int} (hb : BR b m) (hk : k = skind b) (hs : (so = 3 ∧ SIGN m) ∨ (so = 4 ∧ ¬ SIGN m)) : TK k v so m := by
  have hbm : b < 128 → m = b := fun q => by unfold BR at hb; omega
  have yes : SIGN m → so = 3 := fun q => by
    rcases hs with h | h
    · exact h.1
    · exact absurd q h.2
  rcases skind_spec b with ⟨q1, q2⟩ | ⟨q1, q2⟩ | ⟨q1, q2⟩ | ⟨q1, q2⟩ | ⟨q1, q2⟩ | ⟨q1, q2⟩ | ⟨q1, q2⟩ | ⟨q1, q2⟩ | ⟨q1, q2⟩ | ⟨q1, q2⟩ | ⟨q1, q2⟩ | ⟨q1, q2⟩
  · have hm : m = 60 := (hbm (by omega)).trans q1
    exact Or.inr (Or.inr (Or.inr (Or.inr ⟨yes (by rw [hm]; unfold SIGN; decide), (Or.inl ⟨hk.trans q2, hm⟩)⟩)))
  · have hm : m = 62 := (hbm (by omega)).trans q1
    exact Or.inr (Or.inr (Or.inr (Or.inr ⟨yes (by rw [hm]; unfold SIGN; decide), (Or.inr (Or.inr (Or.inl ⟨hk.trans q2, hm⟩)))⟩)))
  · have hm : m = 61 := (hbm (by omega)).trans q1
    exact Or.inr (Or.inr (Or.inr (Or.inr ⟨yes (by rw [hm]; unfold SIGN; decide), (Or.inr (Or.inr (Or.inr (Or.inr (Or.inl ⟨hk.trans q2, hm⟩)))))⟩)))
  · have hm : m = 35 := (hbm (by omega)).trans q1
    exact Or.inr (Or.inr (Or.inr (Or.inr ⟨yes (by rw [hm]; unfold SIGN; decide), (Or.inr (Or.inr (Or.inr (Or.inr (Or.inr (Or.inl ⟨hk.trans q2, hm⟩))))))⟩)))
  · have hm : m = 43 := (hbm (by omega)).trans q1
    exact Or.inr (Or.inr (Or.inr (Or.inr ⟨yes (by rw [hm]; unfold SIGN; decide), (Or.inr (Or.inr (Or.inr (Or.inr (Or.inr (Or.inr (Or.inl ⟨hk.trans q2, hm⟩)))))))⟩)))
  · have hm : m = 45 := (hbm (by omega)).trans q1
    exact Or.inr (Or.inr (Or.inr (Or.inr ⟨yes (by rw [hm]; unfold SIGN; decide), (Or.inr (Or.inr (Or.inr (Or.inr (Or.inr (Or.inr (Or.inr (Or.inl ⟨hk.trans q2, hm⟩))))))))⟩)))
  · have hm : m = 42 := (hbm (by omega)).trans q1
    exact Or.inr (Or.inr (Or.inr (Or.inr ⟨yes (by rw [hm]; unfold SIGN; decide), (Or.inr (Or.inr (Or.inr (Or.inr (Or.inr (Or.inr (Or.inr (Or.inr (Or.inl ⟨hk.trans q2, hm⟩)))))))))⟩)))
  · have hm : m = 47 := (hbm (by omega)).trans q1
    exact Or.inr (Or.inr (Or.inr (Or.inr ⟨yes (by rw [hm]; unfold SIGN; decide), (Or.inr (Or.inr (Or.inr (Or.inr (Or.inr (Or.inr (Or.inr (Or.inr (Or.inr (Or.inl ⟨hk.trans q2, hm⟩))))))))))⟩)))
  · have hm : m = 40 := (hbm (by omega)).trans q1
    exact Or.inr (Or.inr (Or.inr (Or.inr ⟨yes (by rw [hm]; unfold SIGN; decide), (Or.inr (Or.inr (Or.inr (Or.inr (Or.inr (Or.inr (Or.inr (Or.inr (Or.inr (Or.inr (Or.inl ⟨hk.trans q2, hm⟩)))))))))))⟩)))
  · have hm : m = 41 := (hbm (by omega)).trans q1
    exact Or.inr (Or.inr (Or.inr (Or.inr ⟨yes (by rw [hm]; unfold SIGN; decide), (Or.inr (Or.inr (Or.inr (Or.inr (Or.inr (Or.inr (Or.inr (Or.inr (Or.inr (Or.inr (Or.inr (Or.inl ⟨hk.trans q2, hm⟩))))))))))))⟩)))
  · have hm : m = 59 := (hbm (by omega)).trans q1
    exact Or.inr (Or.inr (Or.inr (Or.inr ⟨yes (by rw [hm]; unfold SIGN; decide), (Or.inr (Or.inr (Or.inr (Or.inr (Or.inr (Or.inr (Or.inr (Or.inr (Or.inr (Or.inr (Or.inr (Or.inr ⟨hk.trans q2, hm⟩))))))))))))⟩)))
  · refine Or.inr (Or.inr (Or.inr (Or.inl ⟨hk.trans q2, ?_⟩)))
    rcases hs with ⟨h1, h2⟩ | ⟨h1, -⟩
    · right
      refine ⟨h1, ?_⟩
      have hm : m = b := by unfold BR SIGN at *; clear yes; omega
      rw [hm] at h2
      rw [hm]
      clear hbm yes hb hm
      unfold SIGN at h2
      omega
    · exact Or.inl h1
theorem mx_sign {B : Int → Int} {L s k v q : Int} {g1 g' : HS} {y0 : Int32} (e : f_X9_next_370 (sI (sI (sI g1 0 16 (eI g1 0 15)) 0 15 (eI g1 0 15 + 1)) 0 18 (eA g1 0 2 ((eI g1 0 15).toNatClampNeg))) (eA g1 0 2 ((eI g1 0 15).toNatClampNeg)) y0 = some g') (hL : L ≤ 300) (t : MT B L g1) (h0 : 0 ≤ s) (lt : s < L) (a1 : (eI g1 0 15).toInt = s) (hy : (y0.toInt = 3 ∧ SIGN (mB g1 s)) ∨ (y0.toInt = 4 ∧ ¬ SIGN (mB g1 s))) (kt : TokS B L k s q) : (eI g' 0 15).toInt = q ∧ (eI g' 0 16).toInt = s ∧ TK k v (eI g' 0 17).toInt (eI g' 0 18).toInt := by
  have z1 : (1 : Int32).toInt = 1 := rfl
  have z60 : (60 : Int32).toInt = 60 := rfl
  have z62 : (62 : Int32).toInt = 62 := rfl
  have z61 : (61 : Int32).toInt = 61 := rfl
  have z300 : (300 : Int32).toInt = 300 := rfl
  have z301 : (301 : Int32).toInt = 301 := rfl
  have tl := t.1
  have tb := t.2 s h0 lt
  have eb : (eA g1 0 2 ((eI g1 0 15).toNatClampNeg)).toInt = mB g1 s := by rw [← a1]; rfl
  have p1 := fb_addI (x := eI g1 0 15) (y := 1) (by omega) (by omega)
  have p2 := fb_addI (x := eI g1 0 15 + 1) (y := 1) (by omega) (by omega)
  have sp := skind_spec (B s)
  obtain ⟨k1, k2, k3, k4, k5⟩ := kt
  have short : ¬ TokL B L s → sI (sI (sI (sI g1 0 16 (eI g1 0 15)) 0 15 (eI g1 0 15 + 1)) 0 18 (eA g1 0 2 ((eI g1 0 15).toNatClampNeg))) 0 17 y0 = g' → (eI g' 0 15).toInt = q ∧ (eI g' 0 16).toInt = s ∧ TK k v (eI g' 0 17).toInt (eI g' 0 18).toInt := by
    intro nl eg
    subst eg
    rcases k5 with k5 | k5
    · exact absurd k5.1 nl
    · refine ⟨?_, a1, ?_⟩
      · show (eI g1 0 15 + 1).toInt = q
        rw [k5.2.2]; omega
      · show TK k v y0.toInt (eA g1 0 2 ((eI g1 0 15).toNatClampNeg)).toInt
        rw [eb]
        exact TK_sg tb k5.2.1 hy
  unfold f_X9_next_370 at e
  have like : (mB g1 s = 60 ∨ mB g1 s = 62) → f_X9_next_385 (sI (sI (sI (sI g1 0 16 (eI g1 0 15)) 0 15 (eI g1 0 15 + 1)) 0 18 (eA g1 0 2 ((eI g1 0 15).toNatClampNeg))) 0 17 y0) (eA g1 0 2 ((eI g1 0 15).toNatClampNeg)) = some g' → (eI g' 0 15).toInt = q ∧ (eI g' 0 16).toInt = s ∧ TK k v (eI g' 0 17).toInt (eI g' 0 18).toInt := by
    intro hm e
    have hb : B s = mB g1 s := by unfold BR at tb; omega
    have y3 : y0.toInt = 3 := by unfold SIGN at hy; omega
    unfold f_X9_next_385 f_X9_next_439 at e
    by_cases c1 : eI (sI (sI (sI (sI g1 0 16 (eI g1 0 15)) 0 15 (eI g1 0 15 + 1)) 0 18 (eA g1 0 2 ((eI g1 0 15).toNatClampNeg))) 0 17 y0) 0 14 ≤ eI (sI (sI (sI (sI g1 0 16 (eI g1 0 15)) 0 15 (eI g1 0 15 + 1)) 0 18 (eA g1 0 2 ((eI g1 0 15).toNatClampNeg))) 0 17 y0) 0 15
    · rw [if_pos c1] at e
      have d1 : (eI g1 0 14).toInt ≤ (eI g1 0 15 + 1).toInt := gi_of_le c1
      exact short (fun w => by have := w.2.1; omega) (Option.some.inj e)
    · rw [if_neg c1] at e
      have d1 : (eI g1 0 15 + 1).toInt < (eI g1 0 14).toInt := gi_of_nle c1
      obtain ⟨-, e⟩ := ob_if e
      have tb2 := t.2 (s + 1) (by omega) (by omega)
      have eb2 : (eA g1 0 2 ((eI g1 0 15 + 1).toNatClampNeg)).toInt = mB g1 (s + 1) := by rw [← show (eI g1 0 15 + 1).toInt = s + 1 by omega]; rfl
      by_cases c2 : eA g1 0 2 ((eI g1 0 15 + 1).toNatClampNeg) = 61
      · have d2 := gi_of_eq c2
        have hl : TokL B L s := ⟨by omega, by omega, by unfold BR at tb2; omega⟩
        rcases k5 with k5 | k5
        · have e : (if eA g1 0 2 ((eI g1 0 15 + 1).toNatClampNeg) = 61 then (if eA g1 0 2 ((eI g1 0 15).toNatClampNeg) = 60 then f_X9_next_426 (sI (sI (sI (sI g1 0 16 (eI g1 0 15)) 0 15 (eI g1 0 15 + 1)) 0 18 (eA g1 0 2 ((eI g1 0 15).toNatClampNeg))) 0 17 y0) 300 else f_X9_next_426 (sI (sI (sI (sI g1 0 16 (eI g1 0 15)) 0 15 (eI g1 0 15 + 1)) 0 18 (eA g1 0 2 ((eI g1 0 15).toNatClampNeg))) 0 17 y0) 301) else _) = some g' := e
          rw [if_pos c2] at e
          unfold f_X9_next_426 f_X9_next_439 at e
          by_cases c3 : eA g1 0 2 ((eI g1 0 15).toNatClampNeg) = 60
          · rw [if_pos c3] at e
            have d3 := gi_of_eq c3
            cases e
            refine ⟨?_, a1, ?_⟩
            · show (eI g1 0 15 + 1 + 1).toInt = q
              rw [k5.2.2]; omega
            · show TK k v y0.toInt (300 : Int32).toInt
              have kk := k5.2.1
              have sk : skind (B s) = 3 := by
                rw [show B s = 60 by omega]; rfl
              exact Or.inr (Or.inr (Or.inr (Or.inr ⟨y3, (Or.inr (Or.inl ⟨by omega, rfl⟩))⟩)))
          · rw [if_neg c3] at e
            have d3 := gi_of_ne c3
            cases e
            refine ⟨?_, a1, ?_⟩
            · show (eI g1 0 15 + 1 + 1).toInt = q
              rw [k5.2.2]; omega
            · show TK k v y0.toInt (301 : Int32).toInt
              have kk := k5.2.1
              have sk : skind (B s) = 5 := by
                rw [show B s = 62 by omega]; rfl
              exact Or.inr (Or.inr (Or.inr (Or.inr ⟨y3, (Or.inr (Or.inr (Or.inr (Or.inl ⟨by omega, rfl⟩))))⟩)))
        · exact absurd hl k5.1
      · have e : (if eA g1 0 2 ((eI g1 0 15 + 1).toNatClampNeg) = 61 then _ else some (sI (sI (sI (sI g1 0 16 (eI g1 0 15)) 0 15 (eI g1 0 15 + 1)) 0 18 (eA g1 0 2 ((eI g1 0 15).toNatClampNeg))) 0 17 y0)) = some g' := e
        rw [if_neg c2] at e
        have d2 := gi_of_ne c2
        refine short (fun w => ?_) (Option.some.inj e)
        have := w.2.2
        unfold BR at tb2
        omega
  by_cases c1 : eA g1 0 2 ((eI g1 0 15).toNatClampNeg) = 60
  · rw [if_pos c1] at e
    have d1 := gi_of_eq c1
    exact like (Or.inl (by omega)) e
  · rw [if_neg c1] at e
    have d1 := gi_of_ne c1
    by_cases c2 : eA g1 0 2 ((eI g1 0 15).toNatClampNeg) = 62
    · rw [if_pos c2] at e
      have d2 := gi_of_eq c2
      exact like (Or.inr (by omega)) e
    · rw [if_neg c2] at e
      have d2 := gi_of_ne c2
      unfold f_X9_next_439 at e
      refine short (fun w => ?_) (Option.some.inj e)
      have := w.1
      unfold BR at tb
      omega
theorem mx_next {B : Int → Int} {L p k s v q : Int} {g g' : HS} (e : f_X9_next g = some g') (hL : L ≤ 300) (t : MT B L g) (h0 : 0 ≤ p) (hp : (eI g 0 15).toInt = p) (tk : Tok B L p k s v q) : (eI g' 0 15).toInt = q ∧ (eI g' 0 16).toInt = s ∧ TK k v (eI g' 0 17).toInt (eI g' 0 18).toInt := by
  have z48 : (48 : Int32).toInt = 48 := rfl
  have z57 : (57 : Int32).toInt = 57 := rfl
  have z59 : (59 : Int32).toInt = 59 := rfl
  have z62 : (62 : Int32).toInt = 62 := rfl
  have z40 : (40 : Int32).toInt = 40 := rfl
  have z45 : (45 : Int32).toInt = 45 := rfl
  have z47 : (47 : Int32).toInt = 47 := rfl
  have z35 : (35 : Int32).toInt = 35 := rfl
  have z3 : (3 : Int32).toInt = 3 := rfl
  have z4 : (4 : Int32).toInt = 4 := rfl
  obtain ⟨k1, k2, k3, k4⟩ := tk
  unfold f_X9_next at e
  have hs : s = L ∨ ¬ isBl (B s) := by
    rcases k4 with k | k | k | k
    · exact Or.inl k.1
    · right; have := k.2.1; unfold isAl at this; unfold isBl; omega
    · right; have := k.2.1; unfold isNu at this; unfold isBl; omega
    · exact Or.inr k.2.1
  obtain ⟨g1, e1, a1, f1⟩ := mx_skip hL _ g g' e t (by omega) (by omega) k2 (fun j x y => k3 j (by omega) y) hs
  have t1 := MT_fr t f1 (by decide) (by decide)
  have tl := t1.1
  unfold f_X9_next_52 at e1
  by_cases c1 : eI g1 0 15 = eI g1 0 14
  · rw [if_pos c1] at e1
    cases e1
    have d := gi_of_eq c1
    rcases k4 with k | k | k | k
    · exact ⟨by show (eI g1 0 15).toInt = q; rw [a1, k.1, k.2.2], a1, Or.inl ⟨k.2.1, rfl⟩⟩
    · have := k.1; omega
    · have := k.1; omega
    · have := k.1; omega
  · rw [if_neg c1] at e1
    have d : ¬ (eI g1 0 15).toInt = (eI g1 0 14).toInt := gi_of_ne c1
    have lt : s < L := by omega
    obtain ⟨-, e1⟩ := ob_if e1
    have tb := t1.2 s (by omega) lt
    have eb : (eA g1 0 2 ((eI g1 0 15).toNatClampNeg)).toInt = mB g1 s := by rw [← a1]; rfl
    obtain ⟨r8, e8, e1⟩ := ob1_some e1
    have q8 := mx_isLetter e8
    rw [eb, BR_al tb] at q8
    rcases q8 with ⟨rfl, q8⟩ | ⟨rfl, q8⟩
    · rw [if_pos rfl] at e1
      obtain ⟨r10, e10, e1⟩ := ob1_some e1
      have q10 : (r10 = 0 ∧ ¬ isNu (B s)) ∨ (r10 = 1 ∧ isNu (B s)) := by
        rw [← BR_nu tb]
        unfold isNu
        have := mx_in e10
        rw [eb, z48, z57] at this
        exact this
      rcases q10 with ⟨rfl, q10⟩ | ⟨rfl, q10⟩
      · rw [if_pos rfl] at e1
        rcases k4 with k | k | k | k
        · have := k.1; omega
        · exact absurd k.2.1 q8
        · exact absurd k.2.1 q10
        · obtain ⟨r12, e12, e1⟩ := ob1_some e1
          have q12 := mx_in e12
          rw [eb, z59, z62] at q12
          rcases q12 with ⟨rfl, q12⟩ | ⟨rfl, q12⟩
          · rw [if_pos rfl] at e1
            obtain ⟨r14, e14, e1⟩ := ob1_some e1
            have q14 := mx_in e14
            rw [eb, z40, z45] at q14
            rcases q14 with ⟨rfl, q14⟩ | ⟨rfl, q14⟩
            · rw [if_pos rfl] at e1
              by_cases c47 : eA g1 0 2 ((eI g1 0 15).toNatClampNeg) = 47
              · rw [if_pos c47] at e1
                have d47 := gi_of_eq c47
                unfold f_X9_next_365 at e1
                exact mx_sign e1 hL t1 (by omega) lt a1 (Or.inl ⟨rfl, by unfold SIGN; omega⟩) k
              · rw [if_neg c47] at e1
                have d47 := gi_of_ne c47
                by_cases c35 : eA g1 0 2 ((eI g1 0 15).toNatClampNeg) = 35
                · rw [if_pos c35] at e1
                  have d35 := gi_of_eq c35
                  unfold f_X9_next_365 at e1
                  exact mx_sign e1 hL t1 (by omega) lt a1 (Or.inl ⟨rfl, by unfold SIGN; omega⟩) k
                · rw [if_neg c35] at e1
                  have d35 := gi_of_ne c35
                  exact mx_sign e1 hL t1 (by omega) lt a1 (Or.inr ⟨rfl, by unfold SIGN; omega⟩) k
            · rw [if_neg (by decide)] at e1
              unfold f_X9_next_365 at e1
              exact mx_sign e1 hL t1 (by omega) lt a1 (Or.inl ⟨rfl, by unfold SIGN; omega⟩) k
          · rw [if_neg (by decide)] at e1
            unfold f_X9_next_365 at e1
            exact mx_sign e1 hL t1 (by omega) lt a1 (Or.inl ⟨rfl, by unfold SIGN; omega⟩) k
      · rw [if_neg (by decide)] at e1
        rcases k4 with k | k | k | k
        · have := k.1; omega
        · exact absurd k.2.1 q8
        · obtain ⟨-, -, j1, j2, j3, j4, j5, j6⟩ := k
          have f2 : Fr [(0, 0, 16), (0, 0, 17), (0, 0, 18)] g1 (sI (sI (sI g1 0 16 (eI g1 0 15)) 0 17 2) 0 18 0) := Fr_sI (by decide) (Fr_sI (by decide) (Fr_sI (by decide) (Fr_refl _ _)))
          have a2 : (eI (sI (sI (sI g1 0 16 (eI g1 0 15)) 0 17 2) 0 18 0) 0 15).toInt = s := a1
          have o2 : (eI (sI (sI (sI g1 0 16 (eI g1 0 15)) 0 17 2) 0 18 0) 0 18).toInt = 0 := rfl
          obtain ⟨m1, m2, m3⟩ := mx_num (q := q) hL _ _ g' e1 (MT_fr t1 f2 (by decide) (by decide)) (by omega) (by omega) j2 (fun j x y => j3 j (by omega) y) j4 (by omega) (by omega)
          rw [a2, o2] at m3
          refine ⟨m1, ?_, ?_⟩
          · rw [m2.1 0 16 (by decide)]; exact a1
          · rw [m2.1 0 17 (by decide), m3, j5, j6]
            refine Or.inr (Or.inl ⟨rfl, rfl, ?_⟩)
            exact nv_rel _ 0 0 (seg_all (P := isNu) _ _ (fun j x y => j3 j x (by omega))) (Or.inl ⟨rfl, by omega, by omega⟩)
        · exact absurd q10 k.2.2.2.1
    · rw [if_neg (by decide)] at e1
      rcases k4 with k | k | k | k
      · have := k.1; omega
      · obtain ⟨-, -, j1, j2, j3, j4, j5⟩ := k
        have f2 : Fr [(0, 0, 16)] g1 (sI g1 0 16 (eI g1 0 15)) := Fr_sI (by decide) (Fr_refl _ _)
        have a2 : (eI (sI g1 0 16 (eI g1 0 15)) 0 15).toInt = s := a1
        have z0 : (0 : Int32).toInt = 0 := rfl
        have y0 : (0 : Int64).toInt = 0 := rfl
        have m0 : MM (0 : Int32).toInt.toNat = 1 := rfl
        obtain ⟨g2, y2, y4, m1, m2, m3, m4, m5⟩ := mx_word (q := q) hL _ _ g' 0 0 e1 (MT_fr t1 f2 (by decide) (by decide)) (by omega) (by omega) j2 (fun j x y => j3 j (by omega) y) j4 (by omega) (by omega) (fun _ => by omega)
        rw [a2] at m4 m5
        have sl := seg_len B (q - s).toNat s
        have dg : DG (seg B s (q - s).toNat) := by
          intro b hb
          have := seg_all (P := isAl) _ _ (fun j x y => j3 j x (by omega)) b hb
          unfold isAl at this
          omega
        obtain ⟨w1, w2, w3⟩ := mx_173 m1 dg (by rw [sl]; omega) (fun w => by rw [m5 w, y0])
        refine ⟨by rw [w1]; exact m2, ?_, ?_⟩
        · rw [w2, m3.1 0 16 (by decide)]; exact a1
        · rw [j5]
          have kr := wkind_rng (seg B s (q - s).toNat)
          exact TK_v w3 (by omega) v
      · have := k.2.1
        unfold isNu at this
        unfold isAl at q8
        omega
      · exact absurd q8 k.2.2.1
theorem TK_nn {k v so t : Int} (h : TK k v so t) : 0 ≤ k ∧ k ≤ 37 := by
  rcases h with u | u | u | u | u
  · omega
  · omega
  · omega
  · omega
  · have := u.2
    unfold SG at this
    omega
/-! the two sides stand at the same token -/
theorem TE_fr {B : Int → Int} {L : Int} {P : Nat → Int} {S : CL} {h h' : HS} (t : TE B L h P) (f : Fr S h h') (h1 : (0, 4, 3) ∉ S) (h2 : (1, 4, 0) ∉ S) (h3 : (1, 4, 1) ∉ S) (h4 : (1, 4, 2) ∉ S) : TE B L h' P := by
  unfold TE at *
  rw [f.1 4 3 h1, f.2.1 4 0 h2, f.2.1 4 1 h3, f.2.1 4 2 h4]
  exact t
def at_ (h : HS) : Int := (eI h 4 4).toInt
def kd (h : HS) : Int := (eA h 4 0 (eI h 4 4).toInt.toNat).toInt
def vl (h : HS) : Int := (eA h 4 2 (eI h 4 4).toInt.toNat).toInt
def TR (B : Int → Int) (L : Int) (P : Nat → Int) (h g : HS) : Prop := MT B L g ∧ 0 ≤ at_ h ∧ at_ h < (eI h 4 3).toInt ∧ (eI g 0 15).toInt = P ((eI h 4 4).toInt.toNat + 1) ∧ eI g 0 16 = eA h 4 1 (eI h 4 4).toInt.toNat ∧ TK (kd h) (vl h) (eI g 0 17).toInt (eI g 0 18).toInt
def TT (B : Int → Int) (L : Int) (P : Nat → Int) (h g : HS) : Prop := L ≤ 300 ∧ TE B L h P ∧ TR B L P h g
theorem TT_h {B : Int → Int} {L : Int} {P : Nat → Int} {S : CL} {h h' g : HS} (t : TT B L P h g) (f : Fr S h h') (h0 : (0, 4, 4) ∉ S) (h1 : (0, 4, 3) ∉ S) (h2 : (1, 4, 0) ∉ S) (h3 : (1, 4, 1) ∉ S) (h4 : (1, 4, 2) ∉ S) : TT B L P h' g := by
  refine ⟨t.1, TE_fr t.2.1 f h1 h2 h3 h4, ?_⟩
  have t := t.2.2
  unfold TR at_ kd vl at *
  rw [f.1 4 4 h0, f.1 4 3 h1, f.2.1 4 0 h2, f.2.1 4 1 h3, f.2.1 4 2 h4]
  exact t
theorem TT_g {B : Int → Int} {L : Int} {P : Nat → Int} {S : CL} {h g g' : HS} (t : TT B L P h g) (f : Fr S g g') (h0 : (0, 0, 14) ∉ S) (h1 : (1, 0, 2) ∉ S) (h2 : (0, 0, 15) ∉ S) (h3 : (0, 0, 16) ∉ S) (h4 : (0, 0, 17) ∉ S) (h5 : (0, 0, 18) ∉ S) : TT B L P h g' := by
  refine ⟨t.1, t.2.1, MT_fr t.2.2.1 f h0 h1, ?_⟩
  have t := t.2.2.2
  rw [f.1 0 15 h2, f.1 0 16 h3, f.1 0 17 h4, f.1 0 18 h5]
  exact t
theorem TT_kind {B : Int → Int} {L : Int} {P : Nat → Int} {h g : HS} {z : Int32 × HS} (t : TT B L P h g) (e : f_X7_kind h = some z) : z.2 = h ∧ z.1.toInt = kd h := by
  have z301 : (301 : Int32).toInt = 301 := rfl
  obtain ⟨hL, ⟨-, -, c2, -⟩, -, a1, a2, -⟩ := t
  unfold at_ at a1 a2
  unfold f_X7_kind f_X7_kind_35 f_X7_kind_36 at e
  rw [if_neg (fun c => by have := gi_of_le c; omega), if_neg (fun c => by have := gi_of_le c; omega)] at e
  obtain ⟨-, e⟩ := ob_if e
  cases e
  exact ⟨rfl, rfl⟩
theorem TT_value {B : Int → Int} {L : Int} {P : Nat → Int} {h g : HS} {z : Int32 × HS} (t : TT B L P h g) (e : f_X7_value h = some z) : z.2 = h ∧ z.1.toInt = vl h := by
  have z301 : (301 : Int32).toInt = 301 := rfl
  obtain ⟨hL, ⟨-, -, c2, -⟩, -, a1, a2, -⟩ := t
  unfold at_ at a1 a2
  unfold f_X7_value f_X7_value_35 f_X7_value_36 at e
  rw [if_neg (fun c => by have := gi_of_le c; omega), if_neg (fun c => by have := gi_of_le c; omega)] at e
  obtain ⟨-, e⟩ := ob_if e
  cases e
  exact ⟨rfl, rfl⟩
theorem TT_start {B : Int → Int} {L : Int} {P : Nat → Int} {h g : HS} {z : Int32 × HS} (t : TT B L P h g) (e : f_X7_start h = some z) : z.2 = h ∧ z.1 = eI g 0 16 := by
  have z301 : (301 : Int32).toInt = 301 := rfl
  obtain ⟨hL, ⟨-, -, c2, -⟩, -, a1, a2, -, a4, -⟩ := t
  unfold at_ at a1 a2
  unfold f_X7_start f_X7_start_35 f_X7_start_36 at e
  rw [if_neg (fun c => by have := gi_of_le c; omega), if_neg (fun c => by have := gi_of_le c; omega)] at e
  obtain ⟨-, e⟩ := ob_if e
  cases e
  exact ⟨rfl, a4.symm⟩
theorem TT_adv {B : Int → Int} {L : Int} {P : Nat → Int} {S : CL} {h h' g g1 g' : HS} (t : TT B L P h g) (k : ¬ kd h = 0) (e : f_X7_advance h = some h') (f : Fr S g g1) (h0 : (0, 0, 14) ∉ S) (h1 : (1, 0, 2) ∉ S) (h2 : (0, 0, 15) ∉ S) (n : f_X9_next g1 = some g') : TT B L P h' g' ∧ h' = sI h 4 4 (eI h 4 4 + 1) ∧ at_ h' = at_ h + 1 := by
  have z1 : (1 : Int32).toInt = 1 := rfl
  obtain ⟨hL, te, tm, a1, a2, a3, a4, a5⟩ := t
  obtain ⟨t1, t2, t3, t4⟩ := id te
  unfold at_ at a1 a2
  unfold kd at k
  have i1 := t4 (eI h 4 4).toInt.toNat (by omega)
  have ne : ¬ (eI h 4 4).toInt = (eI h 4 3).toInt - 1 := fun q => k (i1.2.2.mpr (by omega))
  have s1 := fb_subI (x := eI h 4 3) (y := 1) (by omega) (by omega)
  have s2 := fb_addI (x := eI h 4 4) (y := 1) (by omega) (by omega)
  unfold f_X7_advance f_X7_advance_23 at e
  rw [if_neg (fun c => by have := gi_of_le c; omega)] at e
  cases e
  have i2 := t4 ((eI h 4 4).toInt.toNat + 1) (by omega)
  have en : (eI h 4 4 + 1).toInt.toNat = (eI h 4 4).toInt.toNat + 1 := by omega
  have nx := mx_next n hL (MT_fr tm f h0 h1) i2.1 (by rw [f.1 0 15 h2]; exact a3) i2.2.1
  have fm := w_f_X9_next g1 g' n
  refine ⟨⟨hL, te, MT_fr (MT_fr tm f h0 h1) fm (by decide) (by decide), ?_, ?_, ?_, ?_, ?_⟩, rfl, ?_⟩
  · show 0 ≤ (eI h 4 4 + 1).toInt; omega
  · show (eI h 4 4 + 1).toInt < (eI h 4 3).toInt; omega
  · show _ = P ((eI h 4 4 + 1).toInt.toNat + 1)
    rw [en]; exact nx.1
  · show _ = eA h 4 1 (eI h 4 4 + 1).toInt.toNat
    rw [en]; exact gi_eq nx.2.1
  · show TK (eA h 4 0 (eI h 4 4 + 1).toInt.toNat).toInt (eA h 4 2 (eI h 4 4 + 1).toInt.toNat).toInt _ _
    rw [en]; exact nx.2.2
  · show (eI h 4 4 + 1).toInt = (eI h 4 4).toInt + 1; omega
theorem TT_at {B : Int → Int} {L : Int} {P : Nat → Int} {h g : HS} (t : TT B L P h g) : 0 ≤ at_ h ∧ at_ h ≤ 300 := by
  obtain ⟨hL, ⟨-, -, t3, -⟩, -, a1, a2, -⟩ := t
  omega
theorem TT_tk {B : Int → Int} {L : Int} {P : Nat → Int} {h g : HS} (t : TT B L P h g) : TK (kd h) (vl h) (eI g 0 17).toInt (eI g 0 18).toInt := t.2.2.2.2.2.2.2
/-- the class's fail and the reference's errs at the same token -/
theorem TT_fail {B : Int → Int} {L : Int} {P : Nat → Int} {h h' g g' : HS} {w : Int32} (t : TT B L P h g) (f0 : eI h 5 0 = 0) (g0 : eI g 0 19 = 0) (e : f_X2_fail h w = some h') (n : f_X9_errs g w = some g') : h' = sI (sI h 5 0 w) 5 1 (eI g 0 16) ∧ g' = sI (sI g 0 19 w) 0 20 (eI g 0 16) := by
  unfold f_X2_fail f_X2_fail_20 at e
  rw [if_pos f0] at e
  obtain ⟨r, h2, e1, e⟩ := ob2_some e
  have f : Fr [(0, 5, 0)] h (sI h 5 0 w) := Fr_sI (by decide) (Fr_refl _ _)
  have t' := TT_h t f (by decide) (by decide) (by decide) (by decide) (by decide)
  obtain ⟨q1, q2⟩ := TT_start t' e1
  have q1 : h2 = sI h 5 0 w := q1
  have q2 : r = eI g 0 16 := q2
  subst q1
  subst q2
  cases e
  unfold f_X9_errs f_X9_errs_20 at n
  rw [if_pos g0] at n
  cases n
  exact ⟨rfl, rfl⟩
/-! the reference's small steps, each as what it leaves -/
theorem mp_emits {g g' : HS} {p v : Int32} (e : f_X9_emits g p v = some g') : (0 ≤ (eI g 0 36).toInt ∧ (eI g 0 36).toInt < 400) ∧ g' = sI (sA (sA g 0 37 (upd (eA g 0 37) (eI g 0 36).toInt.toNat p)) 0 38 (upd (eA g 0 38) (eI g 0 36).toInt.toNat v)) 0 36 (eI g 0 36 + 1) := by
  unfold f_X9_emits at e
  obtain ⟨k, e⟩ := ob_if e
  obtain ⟨-, e⟩ := ob_if e
  cases e
  exact ⟨k, rfl⟩
theorem mp_opensFrame {g g' : HS} {p : Int32} (e : f_X9_opensFrame g p = some g') : (0 ≤ (eI g 0 22).toInt ∧ (eI g 0 22).toInt < 40) ∧ g' = sI (sA g 0 23 (upd (eA g 0 23) (eI g 0 22).toInt.toNat p)) 0 22 (eI g 0 22 + 1) := by
  unfold f_X9_opensFrame at e
  obtain ⟨k, e⟩ := ob_if e
  cases e
  exact ⟨k, rfl⟩
theorem mp_top {g : HS} {z : Int32 × HS} (e : f_X9_top g = some z) : (1 ≤ (eI g 0 22).toInt ∧ (eI g 0 22).toInt ≤ 40) ∧ z = (eA g 0 23 ((eI g 0 22).toInt.toNat - 1), g) := by
  have z1 : (1 : Int32).toInt = 1 := rfl
  unfold f_X9_top at e
  obtain ⟨k, e⟩ := ob_if e
  cases e
  have r := fb_rng (eI g 0 22)
  have s : (eI g 0 22 - 1).toInt = (eI g 0 22).toInt - 1 := by
    by_cases c : -2147483648 ≤ (eI g 0 22).toInt - 1
    · rw [fb_subI (by omega) (by omega)]; omega
    · exfalso
      have e : eI g 0 22 = -2147483648 := gi_eq (by have : (-2147483648 : Int32).toInt = -2147483648 := rfl; omega)
      rw [e] at k
      exact absurd k (by decide)
  refine ⟨by omega, ?_⟩
  have : (eI g 0 22 - 1).toNatClampNeg = (eI g 0 22).toInt.toNat - 1 := by rw [Int32.toNatClampNeg]; omega
  rw [this]
theorem mp_isSign {g : HS} {p : Int32} {z : Int32 × HS} (e : f_X9_isSign g p = some z) : z.2 = g ∧ ((z.1 = 0 ∧ ¬ ((eI g 0 17).toInt = 3 ∧ (eI g 0 18).toInt = p.toInt)) ∨ (z.1 = 1 ∧ (eI g 0 17).toInt = 3 ∧ (eI g 0 18).toInt = p.toInt)) := by
  have z3 : (3 : Int32).toInt = 3 := rfl
  unfold f_X9_isSign f_X9_isSign_20 f_X9_isSign_21 at e
  by_cases c1 : eI g 0 17 = 3
  · rw [if_pos c1] at e
    have d1 := gi_of_eq c1
    by_cases c2 : eI g 0 18 = p
    · rw [if_pos c2] at e; cases e
      exact ⟨rfl, Or.inr ⟨rfl, by omega, by rw [c2]⟩⟩
    · rw [if_neg c2] at e; cases e
      exact ⟨rfl, Or.inl ⟨rfl, fun q => c2 (gi_eq q.2)⟩⟩
  · rw [if_neg c1] at e; cases e
    have d1 := gi_of_ne c1
    exact ⟨rfl, Or.inl ⟨rfl, fun q => by omega⟩⟩
theorem mp_isWord {g : HS} {p : Int32} {z : Int32 × HS} (e : f_X9_isWord g p = some z) : z.2 = g ∧ ((z.1 = 0 ∧ ¬ ((eI g 0 17).toInt = 1 ∧ (eI g 0 18).toInt = p.toInt)) ∨ (z.1 = 1 ∧ (eI g 0 17).toInt = 1 ∧ (eI g 0 18).toInt = p.toInt)) := by
  have z3 : (1 : Int32).toInt = 1 := rfl
  unfold f_X9_isWord f_X9_isWord_20 f_X9_isWord_21 at e
  by_cases c1 : eI g 0 17 = 1
  · rw [if_pos c1] at e
    have d1 := gi_of_eq c1
    by_cases c2 : eI g 0 18 = p
    · rw [if_pos c2] at e; cases e
      exact ⟨rfl, Or.inr ⟨rfl, by omega, by rw [c2]⟩⟩
    · rw [if_neg c2] at e; cases e
      exact ⟨rfl, Or.inl ⟨rfl, fun q => c2 (gi_eq q.2)⟩⟩
  · rw [if_neg c1] at e; cases e
    have d1 := gi_of_ne c1
    exact ⟨rfl, Or.inl ⟨rfl, fun q => by omega⟩⟩
def rnk (p : Int) : Int := if p = 407 then 1 else if p = 406 then 2 else if p = 43 then 3 else if p = 45 then 3 else 4
theorem mp_rank {x r : Int32} (e : f_X9_rank x = some r) : r.toInt = rnk x.toInt := by
  have z1 : (407 : Int32).toInt = 407 := rfl
  have z2 : (406 : Int32).toInt = 406 := rfl
  have z3 : (43 : Int32).toInt = 43 := rfl
  have z4 : (45 : Int32).toInt = 45 := rfl
  unfold f_X9_rank f_X9_rank_34 f_X9_rank_39 at e
  unfold rnk
  by_cases c1 : x = 407
  · rw [if_pos c1] at e; cases e; rw [if_pos (by rw [c1]; rfl)]; rfl
  rw [if_neg c1] at e
  rw [if_neg (fun q => c1 (gi_eq (by omega)))]
  by_cases c2 : x = 406
  · rw [if_pos c2] at e; cases e; rw [if_pos (by rw [c2]; rfl)]; rfl
  rw [if_neg c2] at e
  rw [if_neg (fun q => c2 (gi_eq (by omega)))]
  by_cases c3 : x = 43
  · rw [if_pos c3] at e; cases e; rw [if_pos (by rw [c3]; rfl)]; rfl
  rw [if_neg c3] at e
  rw [if_neg (fun q => c3 (gi_eq (by omega)))]
  by_cases c4 : x = 45
  · rw [if_pos c4] at e; cases e; rw [if_pos (by rw [c4]; rfl)]; rfl
  rw [if_neg c4] at e
  rw [if_neg (fun q => c4 (gi_eq (by omega)))]
  cases e
  rfl
/-- operators that wait, the last told first -/
def WD (w wf : Nat → Int32) (F : Int) : Nat → List Int → Prop
  | _, [] => True
  | n, p :: r => ∃ m : Nat, n = m + 1 ∧ (w m).toInt = p ∧ (wf m).toInt = F ∧ WD w wf F m r
/-- what stands from a place on -/
def EMI (a : Nat → Int32) : Nat → List Int → Prop
  | _, [] => True
  | i, p :: r => (a i).toInt = p ∧ EMI a (i + 1) r
def STOP (w wf : Nat → Int32) (F x : Int) (n : Nat) : Prop := n = 0 ∨ ∃ k : Nat, n = k + 1 ∧ (¬ (wf k).toInt = F ∨ rnk (w k).toInt < x)
theorem mp_works {F : Int} {x1 : Int32} : ∀ (ps : List Int) (m : Nat) (g g' : HS) (n0 : Nat), f_X9_works_0 m g x1 = some g' → (eI g 0 25).toInt = ((n0 + ps.length : Nat) : Int) → (eI g 0 22).toInt = F → WD (eA g 0 26) (eA g 0 27) F (n0 + ps.length) ps → (∀ p ∈ ps, x1.toInt ≤ rnk p) → STOP (eA g 0 26) (eA g 0 27) F x1.toInt n0 → (eI g' 0 25).toInt = (n0 : Int) ∧ (eI g' 0 36).toInt = (eI g 0 36).toInt + (ps.length : Int) ∧ (∀ i : Nat, (i : Int) < (eI g 0 36).toInt → eA g' 0 37 i = eA g 0 37 i ∧ eA g' 0 38 i = eA g 0 38 i) ∧ EMI (eA g' 0 37) (eI g 0 36).toInt.toNat ps ∧ Fr [(0, 0, 25), (0, 0, 36), (1, 0, 37), (1, 0, 38)] g g' := by
  have z0 : (0 : Int32).toInt = 0 := rfl
  have z1 : (1 : Int32).toInt = 1 := rfl
  intro ps
  induction ps with
  | nil =>
    intro m g g' n0 e hn hF hw hp hs
    have same : g = g' → (eI g' 0 25).toInt = (n0 : Int) ∧ (eI g' 0 36).toInt = (eI g 0 36).toInt + (([] : List Int).length : Int) ∧ (∀ i : Nat, (i : Int) < (eI g 0 36).toInt → eA g' 0 37 i = eA g 0 37 i ∧ eA g' 0 38 i = eA g 0 38 i) ∧ EMI (eA g' 0 37) (eI g 0 36).toInt.toNat [] ∧ Fr [(0, 0, 25), (0, 0, 36), (1, 0, 37), (1, 0, 38)] g g' := by
      intro q
      subst q
      exact ⟨hn, by show _ = _ + (0 : Int); omega, fun i _ => ⟨rfl, rfl⟩, trivial, Fr_refl _ _⟩
    cases m with
    | zero => cases e
    | succ m =>
      rw [f_X9_works_0_s] at e
      unfold f_X9_works_70 at e
      have hn : (eI g 0 25).toInt = (n0 : Int) := hn
      by_cases c1 : eI g 0 25 ≤ 0
      · rw [if_pos c1] at e
        exact same (Option.some.inj e)
      · rw [if_neg c1] at e
        have d1 := gi_of_nle c1
        have rg := fb_rng (eI g 0 25)
        have s1 := fb_subI (x := eI g 0 25) (y := 1) (by omega) (by omega)
        rcases hs with hs | ⟨k, hk, hs⟩
        · omega
        · have ik : (eI g 0 25 - 1).toNatClampNeg = k := by rw [Int32.toNatClampNeg]; omega
          obtain ⟨-, e⟩ := ob_if e
          rw [ik] at e
          by_cases c2 : eA g 0 27 k = eI g 0 22
          · rw [if_pos c2] at e
            have d2 := gi_of_eq c2
            obtain ⟨-, e⟩ := ob_if e
            obtain ⟨r5, e5, e⟩ := ob1_some e
            have k5 := mp_rank e5
            rcases hs with hs | hs
            · exact absurd (by omega) hs
            · by_cases c3 : r5 < x1
              · rw [if_pos c3] at e
                exact same (Option.some.inj e)
              · exact absurd (gi_of_nlt c3) (by omega)
          · rw [if_neg c2] at e
            exact same (Option.some.inj e)
  | cons p r ih =>
    intro m g g' n0 e hn hF hw hp hs
    rw [List.length_cons] at hn hw
    obtain ⟨k, hk, w1, w2, w3⟩ := hw
    have hk : k = n0 + r.length := by omega
    cases m with
    | zero => cases e
    | succ m =>
      rw [f_X9_works_0_s] at e
      have rg := fb_rng (eI g 0 25)
      have s1 := fb_subI (x := eI g 0 25) (y := 1) (by omega) (by omega)
      have ik : (eI g 0 25 - 1).toNatClampNeg = k := by rw [Int32.toNatClampNeg]; omega
      rw [if_neg (fun c => by have := gi_of_le c; omega)] at e
      obtain ⟨-, e⟩ := ob_if e
      rw [ik, if_pos (gi_eq (w2.trans hF.symm))] at e
      obtain ⟨-, e⟩ := ob_if e
      obtain ⟨r5, e5, e⟩ := ob1_some e
      have k5 := mp_rank e5
      rw [w1] at k5
      have hp1 := hp p List.mem_cons_self
      rw [if_neg (fun c => by have := gi_of_lt c; omega)] at e
      obtain ⟨-, e⟩ := ob_if e
      obtain ⟨g1, e1, e⟩ := ob1_some e
      obtain ⟨q1, rfl⟩ := mp_emits e1
      have q1 : 0 ≤ (eI g 0 36).toInt ∧ (eI g 0 36).toInt < 400 := q1
      have a1 := fb_addI (x := eI g 0 36) (y := 1) (by omega) (by omega)
      obtain ⟨j1, j2, j3, j4, j5⟩ := ih m _ g' n0 e (by show (eI g 0 25 - 1).toInt = _; omega) hF (by show WD (eA g 0 26) (eA g 0 27) F (n0 + r.length) r; rw [← hk]; exact w3) (fun q hq => hp q (List.mem_cons_of_mem _ hq)) hs
      have j2 : (eI g' 0 36).toInt = (eI g 0 36 + 1).toInt + (r.length : Int) := j2
      have j3 : ∀ i : Nat, (i : Int) < (eI g 0 36 + 1).toInt → eA g' 0 37 i = upd (eA g 0 37) (eI g 0 36).toInt.toNat (eA g 0 26 k) i ∧ eA g' 0 38 i = upd (eA g 0 38) (eI g 0 36).toInt.toNat 0 i := j3
      have j4 : EMI (eA g' 0 37) (eI g 0 36 + 1).toInt.toNat r := j4
      refine ⟨j1, by rw [List.length_cons]; omega, fun i hi => ?_, ⟨?_, ?_⟩, Fr_trans (Fr_sI (by decide) (Fr_sA (by decide) (Fr_sA (by decide) (Fr_sI (by decide) (Fr_refl _ _))))) j5⟩
      · have q := j3 i (by omega)
        unfold upd at q
        rw [if_neg (by omega), if_neg (by omega)] at q
        exact q
      · have q := (j3 (eI g 0 36).toInt.toNat (by omega)).1
        unfold upd at q
        rw [if_pos rfl] at q
        rw [q]; exact w1
      · rw [show (eI g 0 36).toInt.toNat + 1 = (eI g 0 36 + 1).toInt.toNat by omega]
        exact j4
theorem mp_one {m : Nat} {g g' : HS} (e : f_X9_oneIsOver_0 m g = some g') : (¬ (eA g 0 23 ((eI g 0 22).toInt.toNat - 1)).toInt = 7 ∧ g' = sI g 0 28 2) ∨ ((eA g 0 23 ((eI g 0 22).toInt.toNat - 1)).toInt = 7 ∧ ∃ (n : Nat) (g1 : HS), f_X9_emits (sI (sI g 0 22 (eI g 0 22 - 1)) 0 21 (eI g 0 21 - 1)) 402 0 = some g1 ∧ f_X9_oneIsOver_0 n g1 = some g') := by
  have z7 : (7 : Int32).toInt = 7 := rfl
  cases m with
  | zero => cases e
  | succ m =>
    rw [f_X9_oneIsOver_0_s] at e
    obtain ⟨r1, g1, e1, e⟩ := ob2_some e
    obtain ⟨-, q⟩ := mp_top e1
    cases q
    by_cases c : eA g 0 23 ((eI g 0 22).toInt.toNat - 1) = 7
    · rw [if_pos c] at e
      obtain ⟨g3, e3, e⟩ := ob1_some e
      exact Or.inr ⟨by rw [c]; rfl, m, g3, e3, e⟩
    · rw [if_neg c] at e
      cases e
      exact Or.inl ⟨fun q => c (gi_eq (by omega)), rfl⟩
theorem mp_ask {m : Nat} {g g' : HS} (e : f_X9_askIsOver_0 m g = some g') : (¬ (eA g 0 23 ((eI g 0 22).toInt.toNat - 1)).toInt = 3 ∧ g' = sI g 0 28 3) ∨ ((eA g 0 23 ((eI g 0 22).toInt.toNat - 1)).toInt = 3 ∧ ∃ (n : Nat) (g1 : HS), f_X9_emits (sI (sI g 0 22 (eI g 0 22 - 1)) 0 21 (eI g 0 21 - 1)) 405 0 = some g1 ∧ f_X9_askIsOver_0 n g1 = some g') := by
  have z7 : (3 : Int32).toInt = 3 := rfl
  cases m with
  | zero => cases e
  | succ m =>
    rw [f_X9_askIsOver_0_s] at e
    obtain ⟨r1, g1, e1, e⟩ := ob2_some e
    obtain ⟨-, q⟩ := mp_top e1
    cases q
    by_cases c : eA g 0 23 ((eI g 0 22).toInt.toNat - 1) = 3
    · rw [if_pos c] at e
      obtain ⟨g3, e3, e⟩ := ob1_some e
      exact Or.inr ⟨by rw [c]; rfl, m, g3, e3, e⟩
    · rw [if_neg c] at e
      cases e
      exact Or.inl ⟨fun q => c (gi_eq (by omega)), rfl⟩
/-- one turn of the reference's loop over a text -/
theorem mp_turn {N : Nat} {g : HS} {r : Int32 × HS} (e : f_X9_text_74 N g = some r) (h0 : eI g 0 19 = 0) : ((eI g 0 28).toInt = 0 → ∃ (n : Nat) (g1 : HS), f_X9_asks g = some g1 ∧ f_X9_text_74 n g1 = some r) ∧ ((eI g 0 28).toInt = 1 → ∃ (n : Nat) (g1 : HS), f_X9_begins g = some g1 ∧ f_X9_text_74 n g1 = some r) ∧ ((eI g 0 28).toInt = 2 → ∃ (n : Nat) (g1 : HS), f_X9_goesOn g = some g1 ∧ f_X9_text_74 n g1 = some r) ∧ ((eI g 0 28).toInt = 3 → ∃ (n : Nat) (g1 : HS), f_X9_asksOn g = some g1 ∧ f_X9_text_74 n g1 = some r) ∧ ((eI g 0 28).toInt = 4 → ¬ (eI g 0 17).toInt = 0 → ∃ (n : Nat) (g1 : HS), f_X9_clause g = some g1 ∧ f_X9_text_74 n g1 = some r) := by
  have z0 : (0 : Int32).toInt = 0 := rfl
  have z1 : (1 : Int32).toInt = 1 := rfl
  have z2 : (2 : Int32).toInt = 2 := rfl
  have z3 : (3 : Int32).toInt = 3 := rfl
  have z4 : (4 : Int32).toInt = 4 := rfl
  cases N with
  | zero => cases e
  | succ N =>
    rw [f_X9_text_74_s, if_pos h0] at e
    have go : (¬ (eI g 0 28).toInt = 4 ∨ ¬ (eI g 0 17).toInt = 0) → f_X9_text_96 (f_X9_text_74 N) g = some r := by
      intro q
      by_cases c4 : eI g 0 28 = 4
      · rw [if_pos c4] at e
        have d4 := gi_of_eq c4
        rw [if_neg (fun c => by have := gi_of_eq c; omega)] at e
        exact e
      · rw [if_neg c4] at e
        exact e
    refine ⟨fun s => ?_, fun s => ?_, fun s => ?_, fun s => ?_, fun s t => ?_⟩
    · have e := go (Or.inl (by omega))
      unfold f_X9_text_96 at e
      rw [if_pos (gi_eq s)] at e
      obtain ⟨g1, e1, e⟩ := ob1_some e
      exact ⟨N, g1, e1, e⟩
    · have e := go (Or.inl (by omega))
      unfold f_X9_text_96 at e
      rw [if_neg (fun c => by have := gi_of_eq c; omega), if_pos (gi_eq s)] at e
      obtain ⟨g1, e1, e⟩ := ob1_some e
      exact ⟨N, g1, e1, e⟩
    · have e := go (Or.inl (by omega))
      unfold f_X9_text_96 at e
      rw [if_neg (fun c => by have := gi_of_eq c; omega), if_neg (fun c => by have := gi_of_eq c; omega), if_pos (gi_eq s)] at e
      obtain ⟨g1, e1, e⟩ := ob1_some e
      exact ⟨N, g1, e1, e⟩
    · have e := go (Or.inl (by omega))
      unfold f_X9_text_96 at e
      rw [if_neg (fun c => by have := gi_of_eq c; omega), if_neg (fun c => by have := gi_of_eq c; omega), if_neg (fun c => by have := gi_of_eq c; omega), if_pos (gi_eq s)] at e
      obtain ⟨g1, e1, e⟩ := ob1_some e
      exact ⟨N, g1, e1, e⟩
    · have e := go (Or.inr t)
      unfold f_X9_text_96 at e
      rw [if_neg (fun c => by have := gi_of_eq c; omega), if_neg (fun c => by have := gi_of_eq c; omega), if_neg (fun c => by have := gi_of_eq c; omega), if_neg (fun c => by have := gi_of_eq c; omega)] at e
      obtain ⟨g1, e1, e⟩ := ob1_some e
      exact ⟨N, g1, e1, e⟩
/-! the two programs' steps, told as one -/
def OPR (k p : Int) : Prop := (k = 9 ∧ p = 43) ∨ (k = 10 ∧ p = 45) ∨ (k = 11 ∧ p = 42) ∨ (k = 12 ∧ p = 47) ∨ (k = 3 ∧ p = 60) ∨ (k = 4 ∧ p = 300) ∨ (k = 5 ∧ p = 62) ∨ (k = 6 ∧ p = 301) ∨ (k = 7 ∧ p = 61) ∨ (k = 8 ∧ p = 35) ∨ (k = 27 ∧ p = 406) ∨ (k = 26 ∧ p = 407) ∨ (k = 28 ∧ p = 405) ∨ (k = 38 ∧ p = 402)
def OPK (s p : Int) : Prop := 20000 ≤ s ∧ OPR (s - 20000) p
theorem SG_OPR {k t : Int} (h : SG k t) (hk : k ≤ 12) : OPR k t := by
  rcases h with h | h | h | h | h | h | h | h | h | h | h | h | h
  · exact (Or.inr (Or.inr (Or.inr (Or.inr (Or.inl h)))))
  · exact (Or.inr (Or.inr (Or.inr (Or.inr (Or.inr (Or.inl h))))))
  · exact (Or.inr (Or.inr (Or.inr (Or.inr (Or.inr (Or.inr (Or.inl h)))))))
  · exact (Or.inr (Or.inr (Or.inr (Or.inr (Or.inr (Or.inr (Or.inr (Or.inl h))))))))
  · exact (Or.inr (Or.inr (Or.inr (Or.inr (Or.inr (Or.inr (Or.inr (Or.inr (Or.inl h)))))))))
  · exact (Or.inr (Or.inr (Or.inr (Or.inr (Or.inr (Or.inr (Or.inr (Or.inr (Or.inr (Or.inl h))))))))))
  · exact (Or.inl h)
  · exact (Or.inr (Or.inl h))
  · exact (Or.inr (Or.inr (Or.inl h)))
  · exact (Or.inr (Or.inr (Or.inr (Or.inl h))))
  · omega
  · omega
  · omega
theorem OPK_of {k p : Int} (h : OPR k p) (hk : 0 ≤ k) : OPK (20000 + k) p := ⟨by omega, by rw [show 20000 + k - 20000 = k by omega]; exact h⟩
def CR (s p v : Int) : Prop := (0 ≤ s ∧ s ≤ 9999 ∧ p = 400 ∧ v = s) ∨ (10000 ≤ s ∧ s ≤ 10008 ∧ p = 401 ∧ v = s - 10000) ∨ OPK s p
def PD (st : Nat → Int32) : Nat → List Int → Prop
  | _, [] => True
  | i, p :: r => OPK (st i).toInt p ∧ PD st (i + 1) r
theorem PD_congr {a b : Nat → Int32} : ∀ (ps : List Int) (i : Nat), (∀ j : Nat, i ≤ j → j < i + ps.length → b j = a j) → PD a i ps → PD b i ps := by
  intro ps
  induction ps with
  | nil => intro i _ _; trivial
  | cons p r ih =>
    intro i h x
    rw [List.length_cons] at h
    exact ⟨by rw [h i (Nat.le_refl _) (by omega)]; exact x.1, ih (i + 1) (fun j h1 h2 => h j (by omega) (by omega)) x.2⟩
theorem PD_snoc {a : Nat → Int32} {p : Int} : ∀ (ps : List Int) (i : Nat), PD a i ps → OPK (a (i + ps.length)).toInt p → PD a i (ps ++ [p]) := by
  intro ps
  induction ps with
  | nil => intro i _ h; exact ⟨h, trivial⟩
  | cons q r ih =>
    intro i x h
    rw [List.length_cons] at h
    refine ⟨x.1, ih (i + 1) x.2 ?_⟩
    rw [show i + 1 + r.length = i + (r.length + 1) by omega]
    exact h
theorem PD_EMI {a b : Nat → Int32} : ∀ (ps : List Int) (i j : Nat), PD a i ps → EMI b j ps → ∀ r : Nat, r < ps.length → OPK (a (i + r)).toInt (b (j + r)).toInt := by
  intro ps
  induction ps with
  | nil => intro i j _ _ r hr; exact absurd hr (Nat.not_lt_zero _)
  | cons p q ih =>
    intro i j x y r hr
    rw [List.length_cons] at hr
    cases r with
    | zero =>
      show OPK (a i).toInt (b j).toInt
      rw [y.1]; exact x.1
    | succ r =>
      have k := ih (i + 1) (j + 1) x.2 y.2 r (by omega)
      rw [show i + (r + 1) = i + 1 + r by omega, show j + (r + 1) = j + 1 + r by omega]
      exact k
theorem WD_snoc {w wf : Nat → Int32} {F p : Int} : ∀ (ps : List Int) (n : Nat), WD w wf F (n + 1 + ps.length) ps → (w n).toInt = p → (wf n).toInt = F → WD w wf F (n + 1 + ps.length) (ps ++ [p]) := by
  intro ps
  induction ps with
  | nil => intro n _ h1 h2; exact ⟨n, rfl, h1, h2, trivial⟩
  | cons q r ih =>
    intro n x h1 h2
    rw [List.length_cons] at x ⊢
    obtain ⟨m, hm, x1, x2, x3⟩ := x
    have em : m = n + 1 + r.length := by omega
    subst em
    exact ⟨n + 1 + r.length, hm, x1, x2, ih n x3 h1 h2⟩
theorem WD_congr {w wf w' wf' : Nat → Int32} {F : Int} : ∀ (ps : List Int) (n : Nat), (∀ i : Nat, i < n → w' i = w i ∧ wf' i = wf i) → WD w wf F n ps → WD w' wf' F n ps := by
  intro ps
  induction ps with
  | nil => intro n _ _; trivial
  | cons q r ih =>
    intro n h x
    obtain ⟨m, hm, x1, x2, x3⟩ := x
    have k := h m (by omega)
    exact ⟨m, hm, by rw [k.1]; exact x1, by rw [k.2]; exact x2, ih m (fun i hi => h i (by omega)) x3⟩
def CDR (st od vd : Nat → Int32) (d : Nat) (a b : Int) : Prop := ∀ i : Nat, a ≤ (i : Int) → (i : Int) < b → CR (st i).toInt (od (i + d)).toInt (vd (i + d)).toInt
def CC (o d : Nat) (h g h' g' : HS) (ps : List Int) : Prop := 0 ≤ (eI h o 5).toInt ∧ (eI g 0 36).toInt = (eI h o 5).toInt + (d : Int) ∧ (eI h o 5).toInt ≤ (eI h' o 5).toInt - (ps.length : Int) ∧ (eI g' 0 36).toInt + (ps.length : Int) = (eI h' o 5).toInt + (d : Int) ∧ (∀ i : Nat, (i : Int) < (eI h o 5).toInt → eA h' o 2 i = eA h o 2 i) ∧ (∀ i : Nat, (i : Int) < (eI g 0 36).toInt → eA g' 0 37 i = eA g 0 37 i ∧ eA g' 0 38 i = eA g 0 38 i) ∧ CDR (eA h' o 2) (eA g' 0 37) (eA g' 0 38) d (eI h o 5).toInt ((eI h' o 5).toInt - (ps.length : Int)) ∧ PD (eA h' o 2) ((eI h' o 5).toInt - (ps.length : Int)).toNat ps
theorem CC_refl {o d : Nat} {h g : HS} (n : 0 ≤ (eI h o 5).toInt) (b : (eI g 0 36).toInt = (eI h o 5).toInt + (d : Int)) : CC o d h g h g [] := by
  have l : (([] : List Int).length : Int) = 0 := rfl
  refine ⟨n, b, by omega, by omega, fun _ _ => rfl, fun _ _ => ⟨rfl, rfl⟩, fun i h1 h2 => ?_, trivial⟩
  omega
theorem CC_trans {o d : Nat} {h g h1 g1 h2 g2 : HS} {ps : List Int} (x : CC o d h g h1 g1 []) (y : CC o d h1 g1 h2 g2 ps) : CC o d h g h2 g2 ps := by
  have l : (([] : List Int).length : Int) = 0 := rfl
  obtain ⟨x0, x1, x2, x3, x4, x5, x6, x7⟩ := x
  obtain ⟨y0, y1, y2, y3, y4, y5, y6, y7⟩ := y
  refine ⟨x0, x1, by omega, y3, fun i hi => (y4 i (by omega)).trans (x4 i hi), fun i hi => ?_, fun i q1 q2 => ?_, y7⟩
  · have a := y5 i (by omega)
    have b := x5 i hi
    exact ⟨a.1.trans b.1, a.2.trans b.2⟩
  · by_cases c : (i : Int) < (eI h1 o 5).toInt
    · have a := y5 (i + d) (by omega)
      rw [y4 i c, a.1, a.2]
      exact x6 i q1 (by omega)
    · exact y6 i (by omega) q2
theorem CC_same {o d : Nat} {h g h1 g1 h2 g2 : HS} {ps : List Int} (x : CC o d h g h1 g1 ps) (a1 : eI h2 o 5 = eI h1 o 5) (a2 : eA h2 o 2 = eA h1 o 2) (a3 : eI g2 0 36 = eI g1 0 36) (a4 : eA g2 0 37 = eA g1 0 37) (a5 : eA g2 0 38 = eA g1 0 38) : CC o d h g h2 g2 ps := by
  unfold CC at *
  rw [a1, a2, a3, a4, a5]
  exact x
theorem CC_left {o d : Nat} {h g h1 g1 h2 g2 : HS} {ps : List Int} (x : CC o d h2 g2 h1 g1 ps) (a1 : eI h2 o 5 = eI h o 5) (a2 : eA h2 o 2 = eA h o 2) (a3 : eI g2 0 36 = eI g 0 36) (a4 : eA g2 0 37 = eA g 0 37) (a5 : eA g2 0 38 = eA g 0 38) : CC o d h g h1 g1 ps := by
  unfold CC at *
  rw [a1, a2, a3, a4, a5] at x
  exact x
theorem CC_emit {o d : Nat} {h g h1 g1 h2 g2 : HS} {s p v : Int32} (x : CC o d h g h1 g1 []) (c1 : (eI h2 o 5).toInt = (eI h1 o 5).toInt + 1) (c2 : eA h2 o 2 = upd (eA h1 o 2) (eI h1 o 5).toInt.toNat s) (c3 : (eI g2 0 36).toInt = (eI g1 0 36).toInt + 1) (c4 : eA g2 0 37 = upd (eA g1 0 37) (eI g1 0 36).toInt.toNat p) (c5 : eA g2 0 38 = upd (eA g1 0 38) (eI g1 0 36).toInt.toNat v) (hc : CR s.toInt p.toInt v.toInt) : CC o d h g h2 g2 [] := by
  have l : (([] : List Int).length : Int) = 0 := rfl
  obtain ⟨x0, x1, x2, x3, x4, x5, x6, x7⟩ := x
  refine ⟨x0, x1, by omega, by omega, fun i hi => ?_, fun i hi => ?_, fun i q1 q2 => ?_, trivial⟩
  · rw [c2]
    unfold upd
    rw [if_neg (by omega)]
    exact x4 i hi
  · rw [c4, c5]
    unfold upd
    rw [if_neg (by omega), if_neg (by omega)]
    exact x5 i hi
  · rw [c2, c4, c5]
    unfold upd
    by_cases c : i = (eI h1 o 5).toInt.toNat
    · rw [if_pos c, if_pos (by omega), if_pos (by omega)]
      exact hc
    · rw [if_neg c, if_neg (by omega), if_neg (by omega)]
      exact x6 i q1 (by omega)
theorem CC_push {o d : Nat} {h g h1 g1 h2 : HS} {ps : List Int} {s : Int32} {p : Int} (x : CC o d h g h1 g1 ps) (c1 : (eI h2 o 5).toInt = (eI h1 o 5).toInt + 1) (c2 : eA h2 o 2 = upd (eA h1 o 2) (eI h1 o 5).toInt.toNat s) (hp : OPK s.toInt p) : CC o d h g h2 g1 (ps ++ [p]) := by
  obtain ⟨x0, x1, x2, x3, x4, x5, x6, x7⟩ := x
  have l : ((ps ++ [p]).length : Int) = (ps.length : Int) + 1 := by rw [List.length_append]; rfl
  refine ⟨x0, x1, by omega, by omega, fun i hi => ?_, x5, fun i q1 q2 => ?_, ?_⟩
  · rw [c2]
    unfold upd
    rw [if_neg (by omega)]
    exact x4 i hi
  · rw [c2]
    unfold upd
    rw [if_neg (by omega)]
    exact x6 i q1 (by omega)
  · rw [show ((eI h2 o 5).toInt - ((ps ++ [p]).length : Int)).toNat = ((eI h1 o 5).toInt - (ps.length : Int)).toNat by omega]
    refine PD_snoc ps _ (PD_congr ps _ (fun j h1 h2 => ?_) x7) ?_
    · rw [c2]
      unfold upd
      rw [if_neg (by omega)]
    · rw [c2]
      unfold upd
      rw [if_pos (by omega)]
      exact hp
theorem CC_flush {o d : Nat} {h g h1 g1 g2 : HS} {ps : List Int} (x : CC o d h g h1 g1 ps) (c1 : (eI g2 0 36).toInt = (eI g1 0 36).toInt + (ps.length : Int)) (c2 : ∀ i : Nat, (i : Int) < (eI g1 0 36).toInt → eA g2 0 37 i = eA g1 0 37 i ∧ eA g2 0 38 i = eA g1 0 38 i) (c3 : EMI (eA g2 0 37) (eI g1 0 36).toInt.toNat ps) : CC o d h g h1 g2 [] := by
  have l : (([] : List Int).length : Int) = 0 := rfl
  obtain ⟨x0, x1, x2, x3, x4, x5, x6, x7⟩ := x
  refine ⟨x0, x1, by omega, by omega, x4, fun i hi => ?_, fun i q1 q2 => ?_, trivial⟩
  · have a := c2 i (by omega)
    have b := x5 i hi
    exact ⟨a.1.trans b.1, a.2.trans b.2⟩
  · by_cases c : (i : Int) < (eI h1 o 5).toInt - (ps.length : Int)
    · have a := c2 (i + d) (by omega)
      rw [a.1, a.2]
      exact x6 i q1 c
    · have k := PD_EMI ps _ _ x7 c3 (i - ((eI h1 o 5).toInt - (ps.length : Int)).toNat) (by omega)
      rw [show ((eI h1 o 5).toInt - (ps.length : Int)).toNat + (i - ((eI h1 o 5).toInt - (ps.length : Int)).toNat) = i by omega, show (eI g1 0 36).toInt.toNat + (i - ((eI h1 o 5).toInt - (ps.length : Int)).toNat) = i + d by omega] at k
      exact Or.inr (Or.inr k)
def WW (F : Int) (g g' : HS) (ps : List Int) : Prop := (eI g' 0 25).toInt = (eI g 0 25).toInt + (ps.length : Int) ∧ (∀ i : Nat, (i : Int) < (eI g 0 25).toInt → eA g' 0 26 i = eA g 0 26 i ∧ eA g' 0 27 i = eA g 0 27 i) ∧ WD (eA g' 0 26) (eA g' 0 27) F (eI g' 0 25).toInt.toNat ps
def FF (g g' : HS) : Prop := eI g' 0 22 = eI g 0 22 ∧ eI g' 0 21 = eI g 0 21 ∧ (∀ i : Nat, (i : Int) < (eI g 0 22).toInt → eA g' 0 23 i = eA g 0 23 i) ∧ ∀ i : Nat, (i : Int) ≤ (eI g 0 22).toInt → eA g' 0 24 i = eA g 0 24 i
def WFr (g : HS) : Prop := 0 ≤ (eI g 0 22).toInt ∧ 0 ≤ (eI g 0 25).toInt ∧ ∀ i : Nat, (i : Int) < (eI g 0 25).toInt → (eA g 0 27 i).toInt ≤ (eI g 0 22).toInt
abbrev SPE : CL := [(0, 0, 15), (0, 0, 16), (0, 0, 17), (0, 0, 18), (0, 0, 19), (0, 0, 20), (0, 0, 21), (0, 0, 22), (1, 0, 23), (1, 0, 24), (0, 0, 25), (1, 0, 26), (1, 0, 27), (0, 0, 28), (0, 0, 36), (1, 0, 37), (1, 0, 38)]
def PRE (B : Int → Int) (L : Int) (P : Nat → Int) (o d : Nat) (op : Int) (h g : HS) : Prop := TT B L P h g ∧ eI h 5 0 = 0 ∧ eI g 0 19 = 0 ∧ (eI g 0 21).toInt = op ∧ (0 ≤ op ∧ op ≤ 8) ∧ WFr g ∧ (eI g 0 36).toInt = (eI h o 5).toInt + (d : Int) ∧ (0 ≤ (eI h o 5).toInt ∧ (eI h o 5).toInt ≤ at_ h) ∧ (eI g 0 30 = eI h 5 2 ∧ 0 ≤ (eI h 5 2).toInt)
abbrev SPR : CL := [(0, 0, 15), (0, 0, 16), (0, 0, 17), (0, 0, 18), (0, 0, 21), (0, 0, 22), (1, 0, 23), (1, 0, 24), (0, 0, 25), (1, 0, 26), (1, 0, 27), (0, 0, 28), (0, 0, 36), (1, 0, 37), (1, 0, 38)]
def RES (B : Int → Int) (L : Int) (P : Nat → Int) (o d : Nat) (h g h' g' : HS) (ps : List Int) : Prop := TT B L P h' g' ∧ eI h' 5 0 = 0 ∧ eI g' 0 19 = 0 ∧ FF g g' ∧ WW (eI g 0 22).toInt g g' ps ∧ CC o d h g h' g' ps ∧ (eI h' o 5).toInt - (eI h o 5).toInt ≤ at_ h' - at_ h ∧ (Fr SPR g g' ∧ eI h' 5 1 = eI h 5 1)
def BAD (r : Int32 × HS) (h' g : HS) : Prop := ¬ eI h' 5 0 = 0 ∧ ∃ (N : Nat) (g' : HS), f_X9_text_74 N g' = some r ∧ eI g' 0 19 = eI h' 5 0 ∧ eI g' 0 20 = eI h' 5 1 ∧ Fr SPE g g' ∧ 0 < (eI g' 0 19).toInt
theorem BAD_fr {S : CL} {r : Int32 × HS} {h' h2 g : HS} (b : BAD r h' g) (f : Fr S h' h2) (n0 : (0, 5, 0) ∉ S) (n1 : (0, 5, 1) ∉ S) : BAD r h2 g := by
  unfold BAD at *
  rw [f.1 5 0 n0, f.1 5 1 n1]
  exact b
theorem BAD_left {r : Int32 × HS} {h' g g1 : HS} (b : BAD r h' g1) (f : Fr SPR g g1) : BAD r h' g := by
  obtain ⟨x, N, g', a1, a2, a3, a4, a5⟩ := b
  exact ⟨x, N, g', a1, a2, a3, Fr_trans (Fr_mono (by decide) f) a4, a5⟩
theorem FF_refl (g : HS) : FF g g := ⟨rfl, rfl, fun _ _ => rfl, fun _ _ => rfl⟩
theorem FF_trans {a b c : HS} (x : FF a b) (y : FF b c) : FF a c := ⟨y.1.trans x.1, y.2.1.trans x.2.1, fun i hi => (y.2.2.1 i (by rw [x.1]; exact hi)).trans (x.2.2.1 i hi), fun i hi => (y.2.2.2 i (by rw [x.1]; exact hi)).trans (x.2.2.2 i hi)⟩
theorem WW_nil {F : Int} {g g' : HS} (a : eI g' 0 25 = eI g 0 25) (b : eA g' 0 26 = eA g 0 26) (c : eA g' 0 27 = eA g 0 27) : WW F g g' [] := ⟨by rw [a]; show _ = _ + (0 : Int); omega, fun i _ => by rw [b, c]; exact ⟨rfl, rfl⟩, trivial⟩
theorem WW0 {F : Int} {g g' : HS} (a : (eI g' 0 25).toInt = (eI g 0 25).toInt) (b : ∀ i : Nat, (i : Int) < (eI g 0 25).toInt → eA g' 0 26 i = eA g 0 26 i ∧ eA g' 0 27 i = eA g 0 27 i) : WW F g g' [] := ⟨by rw [a]; show _ = _ + (0 : Int); omega, b, trivial⟩
theorem bad_here {B : Int → Int} {L : Int} {P : Nat → Int} {h h' g g' : HS} {w : Int32} {N : Nat} {r : Int32 × HS} (t : TT B L P h g) (f0 : eI h 5 0 = 0) (g0 : eI g 0 19 = 0) (e : f_X2_fail h w = some h') (n : f_X9_errs g w = some g') (hw : 0 < w.toInt) (et : f_X9_text_74 N g' = some r) : BAD r h' g := by
  obtain ⟨rfl, rfl⟩ := TT_fail t f0 g0 e n
  exact ⟨fun q => by have q : w = 0 := q; rw [q] at hw; exact absurd hw (by decide), N, _, et, rfl, rfl, Fr_sI (by decide) (Fr_sI (by decide) (Fr_refl _ _)), hw⟩
theorem TT_lt {B : Int → Int} {L : Int} {P : Nat → Int} {h g : HS} (t : TT B L P h g) (k : ¬ kd h = 0) : at_ h < 300 := by
  obtain ⟨hL, ⟨-, -, t3, t4⟩, -, a1, a2, -⟩ := t
  unfold at_ at *
  unfold kd at k
  have i1 := t4 (eI h 4 4).toInt.toNat (by omega)
  have ne : ¬ (eI h 4 4).toInt = (eI h 4 3).toInt - 1 := fun q => k (i1.2.2.mpr (by omega))
  omega
theorem i32_ps (x : Int32) : x + 1 - 1 = x := by
  apply gi_eq
  have r := fb_rng x
  have z1 : (1 : Int32).toInt = 1 := rfl
  by_cases c : x.toInt < 2147483647
  · have a := fb_addI (x := x) (y := 1) (by omega) (by omega)
    rw [fb_subI (by omega) (by omega)]; omega
  · have e : x = 2147483647 := gi_eq (by have : (2147483647 : Int32).toInt = 2147483647 := rfl; omega)
    rw [e]; rfl
theorem TK_num {B : Int → Int} {L : Int} {P : Nat → Int} {h g : HS} (t : TT B L P h g) (k : kd h = 2) : (eI g 0 17).toInt = 2 ∧ NR (vl h) (eI g 0 18).toInt := by
  have tk := TT_tk t
  rcases tk with q | q | q | q | q
  · omega
  · exact ⟨q.2.1, q.2.2⟩
  · omega
  · omega
  · have := q.2; unfold SG at this; omega
theorem TK_not {B : Int → Int} {L : Int} {P : Nat → Int} {h g : HS} (t : TT B L P h g) (k : ¬ kd h = 2) : (kd h = 0 ∧ (eI g 0 17).toInt = 0) ∨ (16 ≤ kd h ∧ kd h ≤ 37 ∧ (eI g 0 17).toInt = 1 ∧ (eI g 0 18).toInt = kd h - 16) ∨ (kd h = 1 ∧ ((eI g 0 17).toInt = 4 ∨ ((eI g 0 17).toInt = 3 ∧ (eI g 0 18).toInt = 44))) ∨ ((eI g 0 17).toInt = 3 ∧ SG (kd h) (eI g 0 18).toInt) := by
  have tk := TT_tk t
  rcases tk with q | q | q | q | q
  · exact Or.inl q
  · exact absurd q.1 k
  · exact Or.inr (Or.inl q)
  · exact Or.inr (Or.inr (Or.inl q))
  · exact Or.inr (Or.inr (Or.inr q))
/-- a sign or a not that opens: the same on both sides -/
theorem opens_both {B : Int → Int} {L : Int} {P : Nat → Int} {o d : Nat} {h g : HS} {op f : Int32} {a b : Int32 × HS} (ho : ¬ o = 4) (x : PRE B L P o d op.toInt h g) (k : ¬ kd h = 0) (e : f_X2_opens h op = some a) (n : f_X9_opensSign g f = some b) : (a.1 = 0 ∧ f_X2_fail h 3 = some a.2 ∧ f_X9_errs g 3 = some b.2) ∨ (a.1 = 1 ∧ PRE B L P o d (op + 1).toInt a.2 b.2 ∧ at_ a.2 = at_ h + 1 ∧ (eI a.2 o 5 = eI h o 5 ∧ eA a.2 o 2 = eA h o 2 ∧ eI a.2 5 1 = eI h 5 1) ∧ eI b.2 0 22 = eI g 0 22 + 1 ∧ (eI b.2 0 22).toInt = (eI g 0 22).toInt + 1 ∧ eA b.2 0 23 = upd (eA g 0 23) (eI g 0 22).toInt.toNat f ∧ eI b.2 0 21 = eI g 0 21 + 1 ∧ Fr [(0, 0, 15), (0, 0, 16), (0, 0, 17), (0, 0, 18), (0, 0, 21), (0, 0, 22), (1, 0, 23)] g b.2) := by
  have z1 : (1 : Int32).toInt = 1 := rfl
  have z8 : (8 : Int32).toInt = 8 := rfl
  obtain ⟨t, f0, g0, hop, ⟨op0, op8⟩, ⟨w0, w1, w2⟩, b0, ⟨s0, s1⟩, lk1, lk2⟩ := x
  unfold f_X2_opens at e
  unfold f_X9_opensSign at n
  by_cases c : op < 8
  · right
    have dc := gi_of_lt c
    rw [if_pos c] at e
    rw [if_neg (fun q => by have := gi_of_eq q; omega)] at n
    obtain ⟨h2, e2, e⟩ := ob1_some e
    cases e
    obtain ⟨g2, n2, n⟩ := ob1_some n
    obtain ⟨g3, n3, n⟩ := ob1_some n
    cases n
    obtain ⟨⟨q1, q2⟩, rfl⟩ := mp_opensFrame n2
    have q1 : 0 ≤ (eI g 0 22).toInt := q1
    have q2 : (eI g 0 22).toInt < 40 := q2
    have fg : Fr [(0, 0, 21), (0, 0, 22), (1, 0, 23)] g (sI (sA (sI g 0 21 (eI g 0 21 + 1)) 0 23 (upd (eA (sI g 0 21 (eI g 0 21 + 1)) 0 23) (eI (sI g 0 21 (eI g 0 21 + 1)) 0 22).toInt.toNat f)) 0 22 (eI (sI g 0 21 (eI g 0 21 + 1)) 0 22 + 1)) := Fr_sI (by decide) (Fr_sA (by decide) (Fr_sI (by decide) (Fr_refl _ _)))
    obtain ⟨t2, eh, ea⟩ := TT_adv t k e2 fg (by decide) (by decide) (by decide) n3
    have fn := w_f_X9_next _ _ n3
    have a1 := fb_addI (x := eI g 0 22) (y := 1) (by omega) (by omega)
    have a2 := fb_addI (x := eI g 0 21) (y := 1) (by omega) (by omega)
    have a3 := fb_addI (x := op) (y := 1) (by omega) (by omega)
    have hh : eI h2 o 5 = eI h o 5 ∧ eA h2 o 2 = eA h o 2 ∧ eI h2 5 1 = eI h 5 1 := by
      subst eh
      refine ⟨?_, rfl, rfl⟩
      show (if o = 4 then (if (5 : Nat) = 4 then _ else _) else _) = _
      rw [if_neg ho]
      rfl
    have hf : eI h2 5 0 = eI h 5 0 ∧ eI h2 5 2 = eI h 5 2 := by subst eh; exact ⟨rfl, rfl⟩
    have i22 : eI g3 0 22 = eI g 0 22 + 1 := fn.1 0 22 (by decide)
    have i21 : eI g3 0 21 = eI g 0 21 + 1 := fn.1 0 21 (by decide)
    have i25 : eI g3 0 25 = eI g 0 25 := fn.1 0 25 (by decide)
    have i27 : eA g3 0 27 = eA g 0 27 := fn.2.1 0 27 (by decide)
    have i36 : eI g3 0 36 = eI g 0 36 := fn.1 0 36 (by decide)
    have i30 : eI g3 0 30 = eI g 0 30 := fn.1 0 30 (by decide)
    have i19 : eI g3 0 19 = eI g 0 19 := fn.1 0 19 (by decide)
    refine ⟨rfl, ⟨t2, hf.1.trans f0, i19.trans g0, ?_, ?_, ⟨?_, ?_, ?_⟩, ?_, ⟨?_, ?_⟩, ?_, ?_⟩, ea, hh, i22, ?_, fn.2.1 0 23 (by decide), i21, Fr_trans (Fr_mono (by decide) fg) (Fr_mono (by decide) fn)⟩
    · show (eI g3 0 21).toInt = _; rw [i21]; omega
    · omega
    · show 0 ≤ (eI g3 0 22).toInt; rw [i22]; omega
    · show 0 ≤ (eI g3 0 25).toInt; rw [i25]; omega
    · intro i hi
      have hi : (i : Int) < (eI g3 0 25).toInt := hi
      rw [i25] at hi
      have := w2 i hi
      show (eA g3 0 27 i).toInt ≤ (eI g3 0 22).toInt
      rw [i27, i22]; omega
    · show (eI g3 0 36).toInt = (eI h2 o 5).toInt + (d : Int)
      rw [i36, hh.1]; exact b0
    · show 0 ≤ (eI h2 o 5).toInt; rw [hh.1]; omega
    · show (eI h2 o 5).toInt ≤ at_ h2; rw [hh.1, ea]; omega
    · show eI g3 0 30 = eI h2 5 2; rw [i30, hf.2]; exact lk1
    · show 0 ≤ (eI h2 5 2).toInt; rw [hf.2]; exact lk2
    · show (eI g3 0 22).toInt = _; rw [i22]; omega
  · left
    have dc := gi_of_nlt c
    rw [if_neg c] at e
    rw [if_pos (gi_eq (by omega))] at n
    obtain ⟨h3, e3, e⟩ := ob1_some e
    cases e
    obtain ⟨g3, n3, n⟩ := ob1_some n
    cases n
    exact ⟨rfl, e3, n3⟩
/-- the steps of the frames that are over now -/
theorem mp_goes_else {g g1 : HS} {x : Int32} (e : f_X9_goesOn_116 g x = some g1) (h4 : ¬ x.toInt = 4) (h5 : ¬ x.toInt = 5) (h1 : ¬ x.toInt = 1) : f_X9_errs g 1 = some g1 := by
  have z1 : (1 : Int32).toInt = 1 := rfl
  have z4 : (4 : Int32).toInt = 4 := rfl
  have z5 : (5 : Int32).toInt = 5 := rfl
  unfold f_X9_goesOn_116 at e
  rw [if_neg (fun q => by have := gi_of_eq q; omega)] at e
  unfold f_X9_goesOn_181 at e
  rw [if_neg (fun q => by have := gi_of_eq q; omega), if_neg (fun q => by have := gi_of_eq q; omega)] at e
  unfold f_X9_goesOn_245 f_X9_goesOn_250 at e
  obtain ⟨g2, e2, e⟩ := ob1_some e
  cases e
  exact e2
theorem mp_goes_off {g g1 : HS} (e : f_X9_goesOn g = some g1) (n : ¬ ((eI g 0 17).toInt = 3 ∧ ((eI g 0 18).toInt = 43 ∨ (eI g 0 18).toInt = 45 ∨ (eI g 0 18).toInt = 42 ∨ (eI g 0 18).toInt = 47))) : f_X9_goesOn_65 g (eA g 0 23 ((eI g 0 22).toInt.toNat - 1)) = some g1 := by
  have z3 : (3 : Int32).toInt = 3 := rfl
  have y1 : (43 : Int32).toInt = 43 := rfl
  have y2 : (45 : Int32).toInt = 45 := rfl
  have y3 : (42 : Int32).toInt = 42 := rfl
  have y4 : (47 : Int32).toInt = 47 := rfl
  unfold f_X9_goesOn at e
  obtain ⟨r1, g2, e1, e⟩ := ob2_some e
  obtain ⟨-, q⟩ := mp_top e1
  cases q
  by_cases c : eI g 0 17 = 3
  · rw [if_pos c] at e
    have dc := gi_of_eq c
    rw [if_neg (fun q => by have := gi_of_eq q; omega), if_neg (fun q => by have := gi_of_eq q; omega), if_neg (fun q => by have := gi_of_eq q; omega), if_neg (fun q => by have := gi_of_eq q; omega)] at e
    exact e
  · rw [if_neg c] at e
    exact e
def lv (k : Int) : Int := if k = 9 then 3 else if k = 10 then 3 else if k = 11 then 4 else if k = 12 then 4 else if k = 26 then 0 else if k = 27 then 1 else -1
theorem lv_spec (k : Int) : (lv k = 3 ∧ (k = 9 ∨ k = 10)) ∨ (lv k = 4 ∧ (k = 11 ∨ k = 12)) ∨ (lv k = 0 ∧ k = 26) ∨ (lv k = 1 ∧ k = 27) ∨ (lv k = -1 ∧ ¬ k = 9 ∧ ¬ k = 10 ∧ ¬ k = 11 ∧ ¬ k = 12 ∧ ¬ k = 26 ∧ ¬ k = 27) := by
  unfold lv
  by_cases h1 : k = 9
  · rw [if_pos h1]; omega
  rw [if_neg h1]
  by_cases h2 : k = 10
  · rw [if_pos h2]; omega
  rw [if_neg h2]
  by_cases h3 : k = 11
  · rw [if_pos h3]; omega
  rw [if_neg h3]
  by_cases h4 : k = 12
  · rw [if_pos h4]; omega
  rw [if_neg h4]
  by_cases h5 : k = 26
  · rw [if_pos h5]; omega
  rw [if_neg h5]
  by_cases h6 : k = 27
  · rw [if_pos h6]; omega
  rw [if_neg h6]
  omega
def NOP (l k : Int) : Prop := (3 ≤ l → lv k < l) ∧ (l ≤ 1 → lv k < l ∨ 2 ≤ lv k)
theorem RES_flush {B : Int → Int} {L : Int} {P : Nat → Int} {o d m : Nat} {h g h2 g2 g3 : HS} {ps : List Int} {x1 : Int32} (R : RES B L P o d h g h2 g2 ps) (w : 0 ≤ (eI g 0 25).toInt) (rks : ∀ p ∈ ps, x1.toInt ≤ rnk p) (stp : STOP (eA g 0 26) (eA g 0 27) (eI g 0 22).toInt x1.toInt (eI g 0 25).toInt.toNat) (e : f_X9_works_0 m g2 x1 = some g3) : (eI g3 0 25).toInt = (eI g 0 25).toInt ∧ CC o d h g h2 g3 [] ∧ Fr [(0, 0, 25), (0, 0, 36), (1, 0, 37), (1, 0, 38)] g2 g3 := by
  obtain ⟨-, -, -, ⟨r4, -⟩, ⟨r7, r8, r8'⟩, r9, -⟩ := R
  have stp2 : STOP (eA g2 0 26) (eA g2 0 27) (eI g2 0 22).toInt x1.toInt (eI g 0 25).toInt.toNat := by
    rw [r4]
    rcases stp with q | ⟨k, q1, q2⟩
    · exact Or.inl q
    · have a := r8 k (by omega)
      refine Or.inr ⟨k, q1, ?_⟩
      rw [a.1, a.2]
      exact q2
  obtain ⟨m1, m2, m3, m4, m5⟩ := mp_works (F := (eI g2 0 22).toInt) ps _ g2 g3 (eI g 0 25).toInt.toNat e (by rw [r7]; omega) rfl (by rw [show (eI g 0 25).toInt.toNat + ps.length = (eI g2 0 25).toInt.toNat by omega, r4]; exact r8') rks stp2
  exact ⟨by omega, CC_flush r9 m2 m3 m4, m5⟩
theorem cp_kind_same {h : HS} {z : Int32 × HS} (e : f_X7_kind h = some z) : z.2 = h := by
  unfold f_X7_kind f_X7_kind_35 f_X7_kind_36 at e
  by_cases c1 : eI h 4 3 ≤ eI h 4 4
  · rw [if_pos c1] at e; cases e; rfl
  · rw [if_neg c1] at e
    by_cases c2 : (301 : Int32) ≤ eI h 4 4
    · rw [if_pos c2] at e; cases e; rfl
    · rw [if_neg c2] at e
      obtain ⟨-, e⟩ := ob_if e
      cases e; rfl
theorem cp_fail_no {h h' : HS} {w : Int32} (e : f_X2_fail h w = some h') (n : ¬ eI h 5 0 = 0) : h' = h := by
  unfold f_X2_fail f_X2_fail_20 at e
  rw [if_neg n] at e
  cases e; rfl
theorem STOP_new {g g1 : HS} {x : Int} (wf : WFr g) (i25 : eI g1 0 25 = eI g 0 25) (i26 : ∀ i : Nat, (i : Int) < (eI g 0 25).toInt → eA g1 0 26 i = eA g 0 26 i ∧ eA g1 0 27 i = eA g 0 27 i) (j : (eI g1 0 22).toInt = (eI g 0 22).toInt + 1) : STOP (eA g1 0 26) (eA g1 0 27) (eI g1 0 22).toInt x (eI g1 0 25).toInt.toNat := by
  rw [i25, j]
  by_cases c : (eI g 0 25).toInt.toNat = 0
  · exact Or.inl c
  · refine Or.inr ⟨(eI g 0 25).toInt.toNat - 1, by omega, Or.inl ?_⟩
    have w1 := wf.2.1
    rw [(i26 ((eI g 0 25).toInt.toNat - 1) (by omega)).2]
    have := wf.2.2 ((eI g 0 25).toInt.toNat - 1) (by omega)
    omega
def rl (l : Int) : Int := if l = 0 then 1 else if l = 1 then 2 else if l = 2 then 3 else l
theorem rl_spec (l : Int) : (l = 0 ∧ rl l = 1) ∨ (l = 1 ∧ rl l = 2) ∨ (l = 2 ∧ rl l = 3) ∨ (¬ l = 0 ∧ ¬ l = 1 ∧ ¬ l = 2 ∧ rl l = l) := by
  unfold rl
  by_cases h1 : l = 0
  · rw [if_pos h1]; omega
  rw [if_neg h1]
  by_cases h2 : l = 1
  · rw [if_pos h2]; omega
  rw [if_neg h2]
  by_cases h3 : l = 2
  · rw [if_pos h3]; omega
  rw [if_neg h3]
  omega
theorem cp_levelOf {x r : Int32} (e : f_X2_levelOf x = some r) : r.toInt = lv x.toInt := by
  have key : ∀ n : Fin 19, f_X2_levelOf (Int32.ofInt ((n.val : Int) + 9)) = some (Int32.ofInt (lv ((n.val : Int) + 9))) := by decide +kernel
  have key2 : ∀ n : Fin 19, (Int32.ofInt (lv ((n.val : Int) + 9))).toInt = lv ((n.val : Int) + 9) := by decide +kernel
  by_cases h : 9 ≤ x.toInt ∧ x.toInt < 28
  · obtain ⟨m, hm⟩ := Int.eq_ofNat_of_zero_le (show 0 ≤ x.toInt - 9 by omega)
    have k := key ⟨m, by omega⟩
    have ex : x = Int32.ofInt ((m : Int) + 9) := by rw [← Int32.ofInt_toInt x]; congr 1; omega
    have k2 : f_X2_levelOf x = some (Int32.ofInt (lv ((m : Int) + 9))) := by rw [ex]; exact k
    rw [k2] at e
    cases e
    have hx : x.toInt = (m : Int) + 9 := by omega
    rw [hx]
    exact key2 ⟨m, by omega⟩
  · have ne : ∀ (c : Int32), 9 ≤ c.toInt → c.toInt < 28 → ¬ x = c := fun c h1 h2 q => h (by rw [q]; exact ⟨h1, h2⟩)
    have sp := lv_spec x.toInt
    unfold f_X2_levelOf at e
    rw [if_neg (ne 9 (by decide) (by decide)), if_neg (ne 10 (by decide) (by decide)), if_neg (ne 11 (by decide) (by decide)), if_neg (ne 12 (by decide) (by decide)), if_neg (ne 13 (by decide) (by decide)), if_neg (ne 14 (by decide) (by decide)), if_neg (ne 15 (by decide) (by decide)), if_neg (ne 16 (by decide) (by decide)), if_neg (ne 17 (by decide) (by decide)), if_neg (ne 18 (by decide) (by decide)), if_neg (ne 19 (by decide) (by decide)), if_neg (ne 20 (by decide) (by decide)), if_neg (ne 21 (by decide) (by decide)), if_neg (ne 22 (by decide) (by decide)), if_neg (ne 23 (by decide) (by decide)), if_neg (ne 24 (by decide) (by decide)), if_neg (ne 25 (by decide) (by decide)), if_neg (ne 26 (by decide) (by decide)), if_neg (ne 27 (by decide) (by decide))] at e
    cases e
    have : (-1 : Int32).toInt = -1 := rfl
    omega
/-- an operator stands here: the reference waits for what stands behind it -/
theorem mp_op {B : Int → Int} {L : Int} {P : Nat → Int} {h g : HS} {N : Nat} {r : Int32 × HS} {l : Int} (t : TT B L P h g) (g0 : eI g 0 19 = 0) (et : f_X9_text_74 N g = some r) (hl : lv (kd h) = l) (hs : (0 ≤ l ∧ l ≤ 1 ∧ (eI g 0 28).toInt = 3) ∨ (3 ≤ l ∧ (eI g 0 28).toInt = 2)) : ∃ (N' : Nat) (g5 : HS) (p st : Int32), f_X9_waitsFor g p = some g5 ∧ f_X9_text_74 N' (sI g5 0 28 st) = some r ∧ OPK (20000 + kd h) p.toInt ∧ rnk p.toInt = rl l ∧ ((l ≤ 1 ∧ st.toInt = 0) ∨ (3 ≤ l ∧ st.toInt = 1)) := by
  have z3 : (3 : Int32).toInt = 3 := rfl
  have z1 : (1 : Int32).toInt = 1 := rfl
  have z10 : (10 : Int32).toInt = 10 := rfl
  have z11 : (11 : Int32).toInt = 11 := rfl
  have y1 : (43 : Int32).toInt = 43 := rfl
  have y2 : (45 : Int32).toInt = 45 := rfl
  have y3 : (42 : Int32).toInt = 42 := rfl
  have y4 : (47 : Int32).toInt = 47 := rfl
  have tk := TT_tk t
  have sp := lv_spec (kd h)
  rcases hs with ⟨l0, l1, s⟩ | ⟨l3, s⟩
  · obtain ⟨N1, g1, b1, et⟩ := (mp_turn et g0).2.2.2.1 s
    have so : (eI g 0 17).toInt = 1 ∧ (eI g 0 18).toInt = kd h - 16 := by
      rcases tk with u | u | u | u | u
      · omega
      · omega
      · omega
      · omega
      · have := u.2; unfold SG at this; omega
    have go : ∀ y : HS, f_X9_asksOn_18 g = some y → ∃ (g5 : HS) (p : Int32), f_X9_waitsFor g p = some g5 ∧ y = sI g5 0 28 0 ∧ OPK (20000 + kd h) p.toInt ∧ rnk p.toInt = rl l := by
      intro y ey
      unfold f_X9_asksOn_18 at ey
      obtain ⟨r2, g2, b2, ey⟩ := ob2_some ey
      obtain ⟨w1, w2⟩ := mp_isWord b2
      obtain rfl : g = g2 := w1.symm
      have w2 : (r2 = 0 ∧ ¬ ((eI g 0 17).toInt = 1 ∧ (eI g 0 18).toInt = 10)) ∨ (r2 = 1 ∧ (eI g 0 17).toInt = 1 ∧ (eI g 0 18).toInt = 10) := w2
      unfold f_X9_asksOn_37 f_X9_asksOn_77 at ey
      rcases w2 with ⟨rfl, w2⟩ | ⟨rfl, w2⟩
      · rw [if_pos rfl] at ey
        obtain ⟨g5, b5, ey⟩ := ob1_some ey
        cases ey
        have kk : kd h = 27 := by omega
        have ll : l = 1 := by omega
        refine ⟨g5, 406, b5, rfl, ?_, ?_⟩
        · rw [kk]; unfold OPK OPR; decide
        · rw [ll]; rfl
      · rw [if_neg (by decide)] at ey
        obtain ⟨g5, b5, ey⟩ := ob1_some ey
        cases ey
        have kk : kd h = 26 := by omega
        have ll : l = 0 := by omega
        refine ⟨g5, 407, b5, rfl, ?_, ?_⟩
        · rw [kk]; unfold OPK OPR; decide
        · rw [ll]; rfl
    have b18 : f_X9_asksOn_18 g = some g1 := by
      unfold f_X9_asksOn at b1
      obtain ⟨r2, g2, b2, b1⟩ := ob2_some b1
      obtain ⟨w1, w2⟩ := mp_isWord b2
      obtain rfl : g = g2 := w1.symm
      have w2 : (r2 = 0 ∧ ¬ ((eI g 0 17).toInt = 1 ∧ (eI g 0 18).toInt = 10)) ∨ (r2 = 1 ∧ (eI g 0 17).toInt = 1 ∧ (eI g 0 18).toInt = 10) := w2
      rcases w2 with ⟨rfl, w2⟩ | ⟨rfl, w2⟩
      · rw [if_pos rfl] at b1
        obtain ⟨r4, g4, b4, b1⟩ := ob2_some b1
        obtain ⟨w3, w4⟩ := mp_isWord b4
        obtain rfl : g = g4 := w3.symm
        have w4 : (r4 = 0 ∧ ¬ ((eI g 0 17).toInt = 1 ∧ (eI g 0 18).toInt = 11)) ∨ (r4 = 1 ∧ (eI g 0 17).toInt = 1 ∧ (eI g 0 18).toInt = 11) := w4
        rcases w4 with ⟨rfl, w4⟩ | ⟨rfl, w4⟩
        · omega
        · rw [if_neg (by decide)] at b1
          exact b1
      · rw [if_neg (by decide)] at b1
        exact b1
    obtain ⟨g5, p, k1, k2, k3, k4⟩ := go g1 b18
    subst k2
    exact ⟨N1, g5, p, 0, k1, et, k3, k4, Or.inl ⟨l1, rfl⟩⟩
  · obtain ⟨N1, g1, b1, et⟩ := (mp_turn et g0).2.2.1 s
    have so : (eI g 0 17).toInt = 3 ∧ SG (kd h) (eI g 0 18).toInt := by
      rcases tk with u | u | u | u | u
      · omega
      · omega
      · omega
      · omega
      · exact u
    have sg := so.2
    unfold SG at sg
    unfold f_X9_goesOn at b1
    obtain ⟨r2, g2, b2, b1⟩ := ob2_some b1
    obtain ⟨-, q⟩ := mp_top b2
    cases q
    rw [if_pos (gi_eq (by omega))] at b1
    have b49 : f_X9_goesOn_49 g = some g1 := by
      by_cases c1 : eI g 0 18 = 43
      · rw [if_pos c1] at b1; exact b1
      · rw [if_neg c1] at b1
        have d1 := gi_of_ne c1
        by_cases c2 : eI g 0 18 = 45
        · rw [if_pos c2] at b1; exact b1
        · rw [if_neg c2] at b1
          have d2 := gi_of_ne c2
          by_cases c3 : eI g 0 18 = 42
          · rw [if_pos c3] at b1; exact b1
          · rw [if_neg c3] at b1
            have d3 := gi_of_ne c3
            rw [if_pos (gi_eq (by omega))] at b1
            exact b1
    unfold f_X9_goesOn_49 f_X9_goesOn_250 at b49
    obtain ⟨g5, b5, b49⟩ := ob1_some b49
    cases b49
    refine ⟨N1, g5, eI g 0 18, 1, b5, et, ?_, ?_, Or.inr ⟨l3, rfl⟩⟩
    · exact OPK_of (SG_OPR so.2 (by omega)) (by omega)
    · have rs := rl_spec l
      by_cases c : l = 3
      · have : (eI g 0 18).toInt = 43 ∨ (eI g 0 18).toInt = 45 := by omega
        rcases this with q | q
        · rw [q, c]; rfl
        · rw [q, c]; rfl
      · have c4 : l = 4 := by omega
        have : (eI g 0 18).toInt = 42 ∨ (eI g 0 18).toInt = 47 := by omega
        rcases this with q | q
        · rw [q, c4]; rfl
        · rw [q, c4]; rfl
theorem RES_st {B : Int → Int} {L : Int} {P : Nat → Int} {o d : Nat} {h g h' g1 : HS} {ps : List Int} {v : Int32} (R : RES B L P o d h g h' g1 ps) : RES B L P o d h g h' (sI g1 0 28 v) ps := by
  have f : Fr [(0, 0, 28)] g1 (sI g1 0 28 v) := Fr_sI (by decide) (Fr_refl _ _)
  obtain ⟨x1, x2, x3, x4, x5, x6, x7, x8⟩ := R
  exact ⟨TT_g x1 f (by decide) (by decide) (by decide) (by decide) (by decide) (by decide), x2, x3, x4, x5, x6, x7, Fr_trans x8.1 (Fr_mono (by decide) f), x8.2⟩
theorem mp_isAsking {x r : Int32} (e : f_X9_isAsking x = some r) : (r = 0 ∧ ¬ (x.toInt = 60 ∨ x.toInt = 62 ∨ x.toInt = 61 ∨ x.toInt = 35 ∨ x.toInt = 300 ∨ x.toInt = 301)) ∨ (r = 1 ∧ (x.toInt = 60 ∨ x.toInt = 62 ∨ x.toInt = 61 ∨ x.toInt = 35 ∨ x.toInt = 300 ∨ x.toInt = 301)) := by
  have z1 : (60 : Int32).toInt = 60 := rfl
  have z2 : (62 : Int32).toInt = 62 := rfl
  have z3 : (61 : Int32).toInt = 61 := rfl
  have z4 : (35 : Int32).toInt = 35 := rfl
  have z5 : (300 : Int32).toInt = 300 := rfl
  have z6 : (301 : Int32).toInt = 301 := rfl
  unfold f_X9_isAsking f_X9_isAsking_38 f_X9_isAsking_43 at e
  by_cases c1 : x = 60
  · rw [if_pos c1] at e; cases e; exact Or.inr ⟨rfl, by have := gi_of_eq c1; omega⟩
  rw [if_neg c1] at e
  by_cases c2 : x = 62
  · rw [if_pos c2] at e; cases e; exact Or.inr ⟨rfl, by have := gi_of_eq c2; omega⟩
  rw [if_neg c2] at e
  by_cases c3 : x = 61
  · rw [if_pos c3] at e; cases e; exact Or.inr ⟨rfl, by have := gi_of_eq c3; omega⟩
  rw [if_neg c3] at e
  by_cases c4 : x = 35
  · rw [if_pos c4] at e; cases e; exact Or.inr ⟨rfl, by have := gi_of_eq c4; omega⟩
  rw [if_neg c4] at e
  by_cases c5 : x = 300
  · rw [if_pos c5] at e; cases e; exact Or.inr ⟨rfl, by have := gi_of_eq c5; omega⟩
  rw [if_neg c5] at e
  by_cases c6 : x = 301
  · rw [if_pos c6] at e; cases e; exact Or.inr ⟨rfl, by have := gi_of_eq c6; omega⟩
  rw [if_neg c6] at e
  cases e
  exact Or.inl ⟨rfl, by have := gi_of_ne c1; have := gi_of_ne c2; have := gi_of_ne c3; have := gi_of_ne c4; have := gi_of_ne c5; have := gi_of_ne c6; omega⟩
/-! clauses: what both sides keep of a text that is read -/
def LWR (o : Nat) (h g : HS) (c w : Nat) : Prop := 0 ≤ (eA h o 3 w).toInt ∧ (eA h o 3 w).toInt ≤ (eA h o 4 w).toInt ∧ (eA h o 4 w).toInt ≤ (eI h o 5).toInt ∧ (eA g 0 32 c).toInt = (eA h o 3 w).toInt + (c : Int) ∧ CDR (eA h o 2) (eA g 0 37) (eA g 0 38) c (eA h o 3 w).toInt (eA h o 4 w).toInt ∧ (eA g 0 37 ((eA h o 4 w).toInt.toNat + c)).toInt = 408
def CLR (o : Nat) (h g : HS) (c : Nat) : Prop := 0 ≤ (eA g 0 31 c).toInt ∧ (eA g 0 31 c).toInt ≤ 7 ∧ (eA h o 0 (4 * c)).toInt = 16 + (eA g 0 31 c).toInt ∧ ((eA g 0 31 c).toInt ≤ 3 → LWR o h g c (eA g 0 31 c).toInt.toNat) ∧ (4 ≤ (eA g 0 31 c).toInt → eA h o 0 (4 * c + 1) = eA g 0 33 c ∧ ((eA g 0 31 c).toInt ≤ 5 → eA h o 0 (4 * c + 2) = eA g 0 34 c) ∧ ((eA g 0 31 c).toInt = 4 → eA h o 0 (4 * c + 3) = eA g 0 35 c))
def TXR (o : Nat) (h g : HS) : Prop := (eI h o 1).toInt = (eI g 0 29).toInt ∧ (0 ≤ (eI h o 1).toInt ∧ (eI h o 1).toInt ≤ 24) ∧ 0 ≤ (eI h o 5).toInt ∧ (eI g 0 36).toInt = (eI h o 5).toInt + (eI h o 1).toInt ∧ (eI h o 5).toInt ≤ at_ h ∧ (∀ c : Nat, (c : Int) < (eI h o 1).toInt → CLR o h g c) ∧ (∀ w : Nat, w < 4 → ((eA h o 3 w = -1 ∧ ∀ c : Nat, (c : Int) < (eI h o 1).toInt → ¬ (eA g 0 31 c).toInt = (w : Int)) ∨ (¬ eA h o 3 w = -1 ∧ ∃ c : Nat, (c : Int) < (eI h o 1).toInt ∧ (eA g 0 31 c).toInt = (w : Int))))
theorem CLR_keep {o c : Nat} {h g h' g' : HS} {n s r : Int} (x : CLR o h g c) (hc : (c : Int) < n) (k0 : ∀ i : Nat, (i : Int) < 4 * n → eA h' o 0 i = eA h o 0 i) (ks : ∀ i : Nat, (i : Int) < s → eA h' o 2 i = eA h o 2 i) (k3 : ∀ w : Nat, w < 4 → (eA g 0 31 c).toInt = (w : Int) → eA h' o 3 w = eA h o 3 w ∧ eA h' o 4 w = eA h o 4 w) (hs : s = (eI h o 5).toInt) (hs' : s ≤ (eI h' o 5).toInt) (hr : r = s + n) (m31 : eA g' 0 31 c = eA g 0 31 c) (m32 : eA g' 0 32 c = eA g 0 32 c) (m33 : eA g' 0 33 c = eA g 0 33 c) (m34 : eA g' 0 34 c = eA g 0 34 c) (m35 : eA g' 0 35 c = eA g 0 35 c) (mo : ∀ i : Nat, (i : Int) < r → eA g' 0 37 i = eA g 0 37 i ∧ eA g' 0 38 i = eA g 0 38 i) : CLR o h' g' c := by
  obtain ⟨x1, x2, x3, x4, x5⟩ := x
  unfold CLR
  rw [m31, m33, m34, m35, k0 (4 * c) (by omega), k0 (4 * c + 1) (by omega), k0 (4 * c + 2) (by omega), k0 (4 * c + 3) (by omega)]
  refine ⟨x1, x2, x3, fun q => ?_, x5⟩
  have y := x4 q
  have kk := k3 (eA g 0 31 c).toInt.toNat (by omega) (by omega)
  obtain ⟨y1, y2, y3, y4, y5, y6⟩ := y
  unfold LWR
  rw [kk.1, kk.2, m32]
  refine ⟨y1, y2, by omega, y4, fun i q1 q2 => ?_, ?_⟩
  · have a := mo (i + c) (by omega)
    rw [ks i (by omega), a.1, a.2]
    exact y5 i q1 q2
  · rw [(mo _ (by omega)).1]
    exact y6
theorem mp_told {x1 : Int32} : ∀ (n : Nat) (g : HS) (x2 x3 : Int32) (z : Int32 × HS), f_X9_wasTold_4 n g x1 x2 x3 = some z → 0 ≤ x3.toInt → x3.toInt ≤ (eI g 0 29).toInt → (eI g 0 29).toInt ≤ 24 → ((x2 = 0 ∧ ∀ c : Nat, (c : Int) < x3.toInt → ¬ eA g 0 31 c = x1) ∨ (x2 = 1 ∧ ∃ c : Nat, (c : Int) < x3.toInt ∧ eA g 0 31 c = x1)) → z.2 = g ∧ ((z.1 = 0 ∧ ∀ c : Nat, (c : Int) < (eI g 0 29).toInt → ¬ eA g 0 31 c = x1) ∨ (z.1 = 1 ∧ ∃ c : Nat, (c : Int) < (eI g 0 29).toInt ∧ eA g 0 31 c = x1)) := by
  have z1 : (1 : Int32).toInt = 1 := rfl
  intro n
  induction n with
  | zero => intro g x2 x3 z e; cases e
  | succ n ih =>
    intro g x2 x3 z e h0 h1 h2 h3
    rw [f_X9_wasTold_4_s] at e
    by_cases c1 : eI g 0 29 ≤ x3
    · rw [if_pos c1] at e
      have d1 := gi_of_le c1
      obtain ⟨-, e⟩ := ob_if e
      cases e
      refine ⟨rfl, ?_⟩
      rw [show (eI g 0 29).toInt = x3.toInt by omega]
      exact h3
    · rw [if_neg c1] at e
      have d1 := gi_of_nle c1
      have a3 := fb_addI (x := x3) (y := 1) (by omega) (by omega)
      unfold f_X9_wasTold_26 f_X9_wasTold_31 at e
      rcases h3 with ⟨rfl, h3⟩ | ⟨rfl, h3⟩
      · rw [if_pos rfl] at e
        obtain ⟨-, e⟩ := ob_if e
        have ix : x3.toNatClampNeg = x3.toInt.toNat := rfl
        rw [ix] at e
        by_cases c2 : eA g 0 31 x3.toInt.toNat = x1
        · rw [if_pos c2] at e
          exact ih g 1 (x3 + 1) z e (by omega) (by omega) h2 (Or.inr ⟨rfl, x3.toInt.toNat, by omega, c2⟩)
        · rw [if_neg c2] at e
          refine ih g 0 (x3 + 1) z e (by omega) (by omega) h2 (Or.inl ⟨rfl, fun c hc => ?_⟩)
          by_cases q : c = x3.toInt.toNat
          · rw [q]; exact c2
          · exact h3 c (by omega)
      · rw [if_neg (by decide)] at e
        obtain ⟨c, hc, hd⟩ := h3
        exact ih g 1 (x3 + 1) z e (by omega) (by omega) h2 (Or.inr ⟨rfl, c, by omega, hd⟩)
abbrev SPC : CL := [(0, 0, 15), (0, 0, 16), (0, 0, 17), (0, 0, 18), (0, 0, 19), (0, 0, 20), (0, 0, 21), (0, 0, 22), (1, 0, 23), (1, 0, 24), (0, 0, 25), (1, 0, 26), (1, 0, 27), (0, 0, 28), (0, 0, 29), (0, 0, 30), (1, 0, 31), (1, 0, 32), (1, 0, 33), (1, 0, 34), (1, 0, 35), (0, 0, 36), (1, 0, 37), (1, 0, 38)]
def BADC (r : Int32 × HS) (h' g : HS) : Prop := ¬ eI h' 5 0 = 0 ∧ ∃ (N : Nat) (g' : HS), f_X9_text_74 N g' = some r ∧ eI g' 0 19 = eI h' 5 0 ∧ eI g' 0 20 = eI h' 5 1 ∧ Fr SPC g g' ∧ 0 < (eI g' 0 19).toInt
theorem BADC_of {r : Int32 × HS} {h' g g1 : HS} (b : BAD r h' g1) (f : Fr SPC g g1) : BADC r h' g := by
  obtain ⟨x, N, g', a1, a2, a3, a4, a5⟩ := b
  exact ⟨x, N, g', a1, a2, a3, Fr_trans f (Fr_mono (by decide) a4), a5⟩
theorem BADC_fr {S : CL} {r : Int32 × HS} {h' h2 g : HS} (b : BADC r h' g) (f : Fr S h' h2) (n0 : (0, 5, 0) ∉ S) (n1 : (0, 5, 1) ∉ S) : BADC r h2 g := by
  unfold BADC at *
  rw [f.1 5 0 n0, f.1 5 1 n1]
  exact b
/-- where a clause begins -/
def BEG (B : Int → Int) (L : Int) (P : Nat → Int) (o : Nat) (h g : HS) : Prop := TT B L P h g ∧ eI h 5 0 = 0 ∧ eI g 0 19 = 0 ∧ (eI g 0 21).toInt = 0 ∧ (eI g 0 22).toInt = 0 ∧ (eI g 0 25).toInt = 0 ∧ (eI g 0 28).toInt = 4 ∧ (eI h 5 1 = -1 ∧ eI g 0 20 = -1) ∧ TXR o h g
theorem mp_over {g g' : HS} (e : f_X9_clauseIsOver g = some g') : ∃ g1 g2 g3 : HS, f_X9_works g 1 = some g1 ∧ f_X9_emits (sI g1 0 22 0) 408 0 = some g2 ∧ f_X9_next (sI g2 0 29 (eI g2 0 29 + 1)) = some g3 ∧ g' = sI g3 0 28 4 := by
  unfold f_X9_clauseIsOver at e
  obtain ⟨g1, e1, e⟩ := ob1_some e
  obtain ⟨g2, e2, e⟩ := ob1_some e
  obtain ⟨g3, e3, e⟩ := ob1_some e
  cases e
  exact ⟨g1, g2, g3, e1, e2, e3, rfl⟩
/-- a sum is over at the clause's end -/
theorem mp_end1 {B : Int → Int} {L : Int} {P : Nat → Int} {h g : HS} {N : Nat} {r : Int32 × HS} (t : TT B L P h g) (g0 : eI g 0 19 = 0) (et : f_X9_text_74 N g = some r) (s : (eI g 0 28).toInt = 2) (top : (eA g 0 23 ((eI g 0 22).toInt.toNat - 1)).toInt = 1) (nop : NOP 3 (kd h)) : (kd h = 15 ∧ ∃ (N3 : Nat) (g3 : HS), f_X9_clauseIsOver g = some g3 ∧ f_X9_text_74 N3 g3 = some r) ∨ (¬ kd h = 15 ∧ ∃ (N3 : Nat) (g3 : HS), f_X9_errs g 1 = some g3 ∧ f_X9_text_74 N3 g3 = some r) := by
  have z1 : (1 : Int32).toInt = 1 := rfl
  have z4 : (4 : Int32).toInt = 4 := rfl
  have z5 : (5 : Int32).toInt = 5 := rfl
  have z6 : (6 : Int32).toInt = 6 := rfl
  have z59 : (59 : Int32).toInt = 59 := rfl
  obtain ⟨N3, g3, b3, et3⟩ := (mp_turn et g0).2.2.1 s
  have tk2 := TT_tk t
  have nop3 := nop.1 (by omega)
  have sp := lv_spec (kd h)
  have off : ¬ ((eI g 0 17).toInt = 3 ∧ ((eI g 0 18).toInt = 43 ∨ (eI g 0 18).toInt = 45 ∨ (eI g 0 18).toInt = 42 ∨ (eI g 0 18).toInt = 47)) := by
    intro q
    rcases tk2 with u | u | u | u | u
    · omega
    · omega
    · omega
    · omega
    · have := u.2; unfold SG at this; omega
  have b3 := mp_goes_off b3 off
  unfold f_X9_goesOn_65 at b3
  rw [if_neg (fun q => by have := gi_of_eq q; omega)] at b3
  unfold f_X9_goesOn_116 at b3
  rw [if_neg (fun q => by have := gi_of_eq q; omega)] at b3
  unfold f_X9_goesOn_181 at b3
  rw [if_neg (fun q => by have := gi_of_eq q; omega), if_pos (gi_eq (by omega))] at b3
  obtain ⟨r24, g24, b24, b3⟩ := ob2_some b3
  obtain ⟨v1, v2⟩ := mp_isSign b24
  obtain rfl : g = g24 := v1.symm
  have same : (eI g 0 17).toInt = 3 ∧ (eI g 0 18).toInt = 59 ↔ kd h = 15 := by
    rcases tk2 with u | u | u | u | u
    · omega
    · omega
    · omega
    · omega
    · have := u.2; unfold SG at this; omega
  rcases v2 with ⟨v2, v3⟩ | ⟨v2, v3⟩
  · replace v2 : r24 = 0 := v2
    rw [if_pos v2] at b3
    unfold f_X9_goesOn_245 f_X9_goesOn_250 at b3
    obtain ⟨g5, b5, b3⟩ := ob1_some b3
    cases b3
    exact Or.inr ⟨fun q => v3 (same.mpr q), N3, _, b5, et3⟩
  · replace v2 : r24 = 1 := v2
    rw [if_neg (by rw [v2]; decide)] at b3
    unfold f_X9_goesOn_250 at b3
    obtain ⟨g5, b5, b3⟩ := ob1_some b3
    cases b3
    exact Or.inl ⟨same.mp v3, N3, _, b5, et3⟩
/-- a question is over at the clause's end -/
theorem mp_end0 {B : Int → Int} {L : Int} {P : Nat → Int} {h g : HS} {N : Nat} {r : Int32 × HS} (t : TT B L P h g) (g0 : eI g 0 19 = 0) (et : f_X9_text_74 N g = some r) (s : (eI g 0 28).toInt = 3) (top : (eA g 0 23 ((eI g 0 22).toInt.toNat - 1)).toInt = 2) (nop : NOP 0 (kd h)) : (kd h = 15 ∧ ∃ (N3 : Nat) (g3 : HS), f_X9_clauseIsOver g = some g3 ∧ f_X9_text_74 N3 g3 = some r) ∨ (¬ kd h = 15 ∧ ∃ (N3 : Nat) (g3 : HS), f_X9_errs g 1 = some g3 ∧ f_X9_text_74 N3 g3 = some r) := by
  have z2 : (2 : Int32).toInt = 2 := rfl
  have z10 : (10 : Int32).toInt = 10 := rfl
  have z11 : (11 : Int32).toInt = 11 := rfl
  have z59 : (59 : Int32).toInt = 59 := rfl
  obtain ⟨N3, g3, b3, et3⟩ := (mp_turn et g0).2.2.2.1 s
  have tk2 := TT_tk t
  have nop3 := nop.2 (by omega)
  have sp := lv_spec (kd h)
  have off : ¬ ((eI g 0 17).toInt = 1 ∧ ((eI g 0 18).toInt = 10 ∨ (eI g 0 18).toInt = 11)) := by
    intro q
    rcases tk2 with u | u | u | u | u
    · omega
    · omega
    · omega
    · omega
    · omega
  unfold f_X9_asksOn at b3
  obtain ⟨r1, g1, b1, b3⟩ := ob2_some b3
  obtain ⟨v1, v2⟩ := mp_isWord b1
  obtain rfl : g = g1 := v1.symm
  rcases v2 with ⟨v2, v3⟩ | ⟨v2, v3⟩
  · replace v2 : r1 = 0 := v2
    rw [if_pos v2] at b3
    obtain ⟨r3, g3', b3', b3⟩ := ob2_some b3
    obtain ⟨w1, w2⟩ := mp_isWord b3'
    obtain rfl : g = g3' := w1.symm
    rcases w2 with ⟨w2, w3⟩ | ⟨w2, w3⟩
    · replace w2 : r3 = 0 := w2
      rw [if_pos w2] at b3
      obtain ⟨r5, g5, b5, b3⟩ := ob2_some b3
      obtain ⟨-, q⟩ := mp_top b5
      cases q
      rw [if_pos (gi_eq (by omega))] at b3
      obtain ⟨r24, g24, b24, b3⟩ := ob2_some b3
      obtain ⟨y1, y2⟩ := mp_isSign b24
      obtain rfl : g = g24 := y1.symm
      have same : (eI g 0 17).toInt = 3 ∧ (eI g 0 18).toInt = 59 ↔ kd h = 15 := by
        rcases tk2 with u | u | u | u | u
        · omega
        · omega
        · omega
        · omega
        · have := u.2; unfold SG at this; omega
      rcases y2 with ⟨y2, y3⟩ | ⟨y2, y3⟩
      · replace y2 : r24 = 0 := y2
        rw [if_pos y2] at b3
        unfold f_X9_asksOn_72 f_X9_asksOn_77 at b3
        obtain ⟨g6, b6, b3⟩ := ob1_some b3
        cases b3
        exact Or.inr ⟨fun q => y3 (same.mpr q), N3, _, b6, et3⟩
      · replace y2 : r24 = 1 := y2
        rw [if_neg (by rw [y2]; decide)] at b3
        unfold f_X9_asksOn_77 at b3
        obtain ⟨g6, b6, b3⟩ := ob1_some b3
        cases b3
        exact Or.inl ⟨same.mp y3, N3, _, b6, et3⟩
    · exact absurd ⟨w3.1, Or.inr w3.2⟩ off
  · exact absurd ⟨v3.1, Or.inl v3.2⟩ off
/-- two sides in a deed: both go on, or both have failed at one place -/
def DS (B : Int → Int) (L : Int) (P : Nat → Int) (a : Int) (h g : HS) : Prop := (TT B L P h g ∧ eI h 5 0 = 0 ∧ eI g 0 19 = 0 ∧ a ≤ at_ h ∧ eI h 5 1 = -1 ∧ eI g 0 20 = -1) ∨ (¬ eI h 5 0 = 0 ∧ 0 < (eI g 0 19).toInt ∧ eI g 0 19 = eI h 5 0 ∧ eI g 0 20 = eI h 5 1)
theorem DS_g {B : Int → Int} {L : Int} {P : Nat → Int} {S : CL} {a : Int} {h g g' : HS} (ds : DS B L P a h g) (f : Fr S g g') (h0 : (0, 0, 14) ∉ S) (h1 : (1, 0, 2) ∉ S) (h2 : (0, 0, 15) ∉ S) (h3 : (0, 0, 16) ∉ S) (h4 : (0, 0, 17) ∉ S) (h5 : (0, 0, 18) ∉ S) (h6 : (0, 0, 19) ∉ S) (h7 : (0, 0, 20) ∉ S) : DS B L P a h g' := by
  rcases ds with ⟨t, p0, g0, ha⟩ | ⟨p0, g0, q1, q2⟩
  · exact Or.inl ⟨TT_g t f h0 h1 h2 h3 h4 h5, p0, (f.1 0 19 h6).trans g0, ha.1, ha.2.1, (f.1 0 20 h7).trans ha.2.2⟩
  · refine Or.inr ⟨p0, ?_, ?_, ?_⟩
    · rw [f.1 0 19 h6]; exact g0
    · rw [f.1 0 19 h6]; exact q1
    · rw [f.1 0 20 h7]; exact q2
theorem ds_expect {B : Int → Int} {L : Int} {P : Nat → Int} {a : Int} {h h' g g' : HS} {k w : Int32} (ds : DS B L P a h g) (e : f_X2_expect h k = some h') (n : f_X9_wants g w = some g') (hk : k.toInt = 16 + w.toInt) (hw : 0 ≤ w.toInt ∧ w.toInt ≤ 21) : DS B L P a h' g' := by
  unfold f_X2_expect f_X2_expect_29 at e
  unfold f_X9_wants at n
  rcases ds with ⟨t, p0, g0, ha⟩ | ⟨p0, g0, q1, q2⟩
  · rw [if_pos p0] at e
    rw [if_pos g0] at n
    obtain ⟨r2, h2, e2, e⟩ := ob2_some e
    obtain ⟨u1, u2⟩ := TT_kind t e2
    obtain rfl : h = h2 := u1.symm
    replace u2 : r2.toInt = kd h := u2
    obtain ⟨r3, g3, n3, n⟩ := ob2_some n
    obtain ⟨y1, y2⟩ := mp_isWord n3
    obtain rfl : g = g3 := y1.symm
    have tk := TT_tk t
    have same : (eI g 0 17).toInt = 1 ∧ (eI g 0 18).toInt = w.toInt ↔ kd h = 16 + w.toInt := by
      rcases tk with u | u | u | u | u
      · omega
      · omega
      · omega
      · omega
      · have := u.2; unfold SG at this; omega
    rcases y2 with ⟨y2, y3⟩ | ⟨y2, y3⟩
    · replace y2 : r3 = 0 := y2
      rw [if_pos y2] at n
      rw [if_neg (fun q => by have := gi_of_eq q; exact y3 (same.mpr (by omega)))] at e
      obtain ⟨h4, e4, e⟩ := ob1_some e
      cases e
      obtain ⟨g4, n4, n⟩ := ob1_some n
      obtain ⟨rfl, rfl⟩ := TT_fail t p0 g0 e4 n4
      unfold f_X9_wants_20 f_X9_wants_31 at n
      rw [if_neg (show ¬ eI (sI (sI g 0 19 1) 0 20 (eI g 0 16)) 0 19 = 0 from (by decide : ¬ (1 : Int32) = 0))] at n
      cases n
      exact Or.inr ⟨(by decide : ¬ (1 : Int32) = 0), (by decide : 0 < (1 : Int32).toInt), rfl, rfl⟩
    · replace y2 : r3 = 1 := y2
      rw [if_neg (by rw [y2]; decide)] at n
      have kk := same.mp y3
      rw [if_pos (gi_eq (by omega))] at e
      obtain ⟨h5, e5, e⟩ := ob1_some e
      cases e
      unfold f_X9_wants_20 f_X9_wants_31 at n
      rw [if_pos g0] at n
      obtain ⟨g5, n5, n⟩ := ob1_some n
      cases n
      obtain ⟨t5, eh5, ea⟩ := TT_adv t (by omega) e5 (Fr_refl [] g) (by decide) (by decide) (by decide) n5
      have fn := w_f_X9_next _ _ n5
      refine Or.inl ⟨t5, ?_, (fn.1 0 19 (by decide)).trans g0, by have := ha.1; omega, ?_, (fn.1 0 20 (by decide)).trans ha.2.2⟩
      · rw [eh5]; exact p0
      · rw [eh5]; exact ha.2.1
  · rw [if_neg p0] at e
    cases e
    have w0 : ¬ eI g 0 19 = 0 := fun q => by rw [q] at g0; exact absurd g0 (by decide)
    rw [if_neg w0] at n
    unfold f_X9_wants_20 f_X9_wants_31 at n
    rw [if_neg w0] at n
    cases n
    exact Or.inr ⟨p0, g0, q1, q2⟩
