theorem mx_173 {g2 g' : HS} {y2 : Int64} {y4 : Int32} {x : List Int} (e : f_X9_next_173 g2 y2 y4 = some g') (hx : DG x) (h4 : y4.toInt = (x.length : Int)) (h2 : y4.toInt ≤ 8 → y2.toInt = encA 0 x) : eI g' 0 15 = eI g2 0 15 ∧ eI g' 0 16 = eI g2 0 16 ∧ TK (wkind x) 0 (eI g' 0 17).toInt (eI g' 0 18).toInt := by
  have z8 : (8 : Int32).toInt = 8 := rfl
  have z0 : (0 : Int32).toInt = 0 := rfl
  have zm : (-1 : Int32).toInt = -1 := rfl
  have z1 : (1 : Int32).toInt = 1 := rfl
  have z4 : (4 : Int32).toInt = 4 := rfl
  unfold f_X9_next_173 at e
  have fin : ∀ (r : Int32), f_X9_next_189 g2 r = some g' → ((r.toInt = -1 ∧ wkind x = 1) ∨ (0 ≤ r.toInt ∧ wkind x = 16 + r.toInt)) → eI g' 0 15 = eI g2 0 15 ∧ eI g' 0 16 = eI g2 0 16 ∧ TK (wkind x) 0 (eI g' 0 17).toInt (eI g' 0 18).toInt := by
    intro r e hr
    have kr := wkind_rng x
    unfold f_X9_next_189 f_X9_next_205 f_X9_next_439 at e
    by_cases c : (0 : Int32) ≤ r
    · rw [if_pos c] at e
      cases e
      have d := gi_of_le c
      refine ⟨rfl, rfl, ?_⟩
      show TK (wkind x) 0 (1 : Int32).toInt r.toInt
      unfold TK
      omega
    · rw [if_neg c] at e
      cases e
      have d := gi_of_nle c
      refine ⟨rfl, rfl, ?_⟩
      show TK (wkind x) 0 (4 : Int32).toInt r.toInt
      unfold TK
      omega
  by_cases c : y4 ≤ 8
  · rw [if_pos c] at e
    have d := gi_of_le c
    obtain ⟨r, e1, e⟩ := ob1_some e
    have k := mx_wordOf y2 r e1
    have k : r.toInt = wm WC y2.toInt 0 := k
    rw [h2 (by omega), WC_WL] at k
    have w := wm_wf WL x 0 hx WL_DG (by omega)
    refine fin r e ?_
    unfold wkind
    rw [k]
    exact w
  · rw [if_neg c] at e
    have d := gi_of_nle c
    exact fin (-1) e (Or.inl ⟨rfl, wkind_long (by omega)⟩)
theorem TK_v {k so t : Int} (h : TK k 0 so t) (n : ¬ k = 2) (v : Int) : TK k v so t := by
  unfold TK at *
  rcases h with h | h | h | h | h
  · exact Or.inl h
  · exact absurd h.1 n
  · exact Or.inr (Or.inr (Or.inl h))
  · exact Or.inr (Or.inr (Or.inr (Or.inl h)))
  · exact Or.inr (Or.inr (Or.inr (Or.inr h)))
def SIGN (m : Int) : Prop := (59 ≤ m ∧ m ≤ 62) ∨ (40 ≤ m ∧ m ≤ 45) ∨ m = 47 ∨ m = 35
theorem TK_sg {b m k v so : Int} (hb : BR b m) (hk : k = skind b) (hs : (so = 3 ∧ SIGN m) ∨ (so = 4 ∧ ¬ SIGN m)) : TK k v so m := by
  have hbm : b < 128 → m = b := fun q => by unfold BR at hb; omega
  have yes : SIGN m → so = 3 := fun q => by
    rcases hs with h | h
    · exact h.1
    · exact absurd q h.2
  rcases skind_spec b with ⟨q1, q2⟩ | ⟨q1, q2⟩ | ⟨q1, q2⟩ | ⟨q1, q2⟩ | ⟨q1, q2⟩ | ⟨q1, q2⟩ | ⟨q1, q2⟩ | ⟨q1, q2⟩ | ⟨q1, q2⟩ | ⟨q1, q2⟩ | ⟨q1, q2⟩ | ⟨q1, q2⟩
  · have hm : m = 60 := (hbm (by omega)).trans q1
    exact Or.inr (Or.inr (Or.inr (Or.inr ⟨yes (by rw [hm]; unfold SIGN; decide), (Or.inl ⟨hk.trans q2, hm⟩)⟩)))
  · have hm : m = 62 := (hbm (by omega)).trans q1
    exact Or.inr (Or.inr (Or.inr (Or.inr ⟨yes (by rw [hm]; unfold SIGN; decide), (Or.inr (Or.inr (Or.inl ⟨hk.trans q2, hm⟩)))⟩)))
  · have hm : m = 61 := (hbm (by omega)).trans q1
    exact Or.inr (Or.inr (Or.inr (Or.inr ⟨yes (by rw [hm]; unfold SIGN; decide), (Or.inr (Or.inr (Or.inr (Or.inr (Or.inl ⟨hk.trans q2, hm⟩)))))⟩)))
  · have hm : m = 35 := (hbm (by omega)).trans q1
    exact Or.inr (Or.inr (Or.inr (Or.inr ⟨yes (by rw [hm]; unfold SIGN; decide), (Or.inr (Or.inr (Or.inr (Or.inr (Or.inr (Or.inl ⟨hk.trans q2, hm⟩))))))⟩)))
  · have hm : m = 43 := (hbm (by omega)).trans q1
    exact Or.inr (Or.inr (Or.inr (Or.inr ⟨yes (by rw [hm]; unfold SIGN; decide), (Or.inr (Or.inr (Or.inr (Or.inr (Or.inr (Or.inr (Or.inl ⟨hk.trans q2, hm⟩)))))))⟩)))
  · have hm : m = 45 := (hbm (by omega)).trans q1
    exact Or.inr (Or.inr (Or.inr (Or.inr ⟨yes (by rw [hm]; unfold SIGN; decide), (Or.inr (Or.inr (Or.inr (Or.inr (Or.inr (Or.inr (Or.inr (Or.inl ⟨hk.trans q2, hm⟩))))))))⟩)))
  · have hm : m = 42 := (hbm (by omega)).trans q1
    exact Or.inr (Or.inr (Or.inr (Or.inr ⟨yes (by rw [hm]; unfold SIGN; decide), (Or.inr (Or.inr (Or.inr (Or.inr (Or.inr (Or.inr (Or.inr (Or.inr (Or.inl ⟨hk.trans q2, hm⟩)))))))))⟩)))
  · have hm : m = 47 := (hbm (by omega)).trans q1
    exact Or.inr (Or.inr (Or.inr (Or.inr ⟨yes (by rw [hm]; unfold SIGN; decide), (Or.inr (Or.inr (Or.inr (Or.inr (Or.inr (Or.inr (Or.inr (Or.inr (Or.inr (Or.inl ⟨hk.trans q2, hm⟩))))))))))⟩)))
  · have hm : m = 40 := (hbm (by omega)).trans q1
    exact Or.inr (Or.inr (Or.inr (Or.inr ⟨yes (by rw [hm]; unfold SIGN; decide), (Or.inr (Or.inr (Or.inr (Or.inr (Or.inr (Or.inr (Or.inr (Or.inr (Or.inr (Or.inr (Or.inl ⟨hk.trans q2, hm⟩)))))))))))⟩)))
  · have hm : m = 41 := (hbm (by omega)).trans q1
    exact Or.inr (Or.inr (Or.inr (Or.inr ⟨yes (by rw [hm]; unfold SIGN; decide), (Or.inr (Or.inr (Or.inr (Or.inr (Or.inr (Or.inr (Or.inr (Or.inr (Or.inr (Or.inr (Or.inr (Or.inl ⟨hk.trans q2, hm⟩))))))))))))⟩)))
  · have hm : m = 59 := (hbm (by omega)).trans q1
    exact Or.inr (Or.inr (Or.inr (Or.inr ⟨yes (by rw [hm]; unfold SIGN; decide), (Or.inr (Or.inr (Or.inr (Or.inr (Or.inr (Or.inr (Or.inr (Or.inr (Or.inr (Or.inr (Or.inr (Or.inr ⟨hk.trans q2, hm⟩))))))))))))⟩)))
  · refine Or.inr (Or.inr (Or.inr (Or.inl ⟨hk.trans q2, ?_⟩)))
    rcases hs with ⟨h1, h2⟩ | ⟨h1, -⟩
    · right
      refine ⟨h1, ?_⟩
      have hm : m = b := by unfold BR SIGN at *; clear yes; omega
      rw [hm] at h2
      rw [hm]
      clear hbm yes hb hm
      unfold SIGN at h2
      omega
    · exact Or.inl h1
theorem mx_sign {B : Int → Int} {L s k v q : Int} {g1 g' : HS} {y0 : Int32} (e : f_X9_next_370 (sI (sI (sI g1 0 16 (eI g1 0 15)) 0 15 (eI g1 0 15 + 1)) 0 18 (eA g1 0 2 ((eI g1 0 15).toNatClampNeg))) (eA g1 0 2 ((eI g1 0 15).toNatClampNeg)) y0 = some g') (hL : L ≤ 300) (t : MT B L g1) (h0 : 0 ≤ s) (lt : s < L) (a1 : (eI g1 0 15).toInt = s) (hy : (y0.toInt = 3 ∧ SIGN (mB g1 s)) ∨ (y0.toInt = 4 ∧ ¬ SIGN (mB g1 s))) (kt : TokS B L k s q) : (eI g' 0 15).toInt = q ∧ (eI g' 0 16).toInt = s ∧ TK k v (eI g' 0 17).toInt (eI g' 0 18).toInt := by
  have z1 : (1 : Int32).toInt = 1 := rfl
  have z60 : (60 : Int32).toInt = 60 := rfl
  have z62 : (62 : Int32).toInt = 62 := rfl
  have z61 : (61 : Int32).toInt = 61 := rfl
  have z300 : (300 : Int32).toInt = 300 := rfl
  have z301 : (301 : Int32).toInt = 301 := rfl
  have tl := t.1
  have tb := t.2 s h0 lt
  have eb : (eA g1 0 2 ((eI g1 0 15).toNatClampNeg)).toInt = mB g1 s := by rw [← a1]; rfl
  have p1 := fb_addI (x := eI g1 0 15) (y := 1) (by omega) (by omega)
  have p2 := fb_addI (x := eI g1 0 15 + 1) (y := 1) (by omega) (by omega)
  have sp := skind_spec (B s)
  obtain ⟨k1, k2, k3, k4, k5⟩ := kt
  have short : ¬ TokL B L s → sI (sI (sI (sI g1 0 16 (eI g1 0 15)) 0 15 (eI g1 0 15 + 1)) 0 18 (eA g1 0 2 ((eI g1 0 15).toNatClampNeg))) 0 17 y0 = g' → (eI g' 0 15).toInt = q ∧ (eI g' 0 16).toInt = s ∧ TK k v (eI g' 0 17).toInt (eI g' 0 18).toInt := by
    intro nl eg
    subst eg
    rcases k5 with k5 | k5
    · exact absurd k5.1 nl
    · refine ⟨?_, a1, ?_⟩
      · show (eI g1 0 15 + 1).toInt = q
        rw [k5.2.2]; omega
      · show TK k v y0.toInt (eA g1 0 2 ((eI g1 0 15).toNatClampNeg)).toInt
        rw [eb]
        exact TK_sg tb k5.2.1 hy
  unfold f_X9_next_370 at e
  have like : (mB g1 s = 60 ∨ mB g1 s = 62) → f_X9_next_385 (sI (sI (sI (sI g1 0 16 (eI g1 0 15)) 0 15 (eI g1 0 15 + 1)) 0 18 (eA g1 0 2 ((eI g1 0 15).toNatClampNeg))) 0 17 y0) (eA g1 0 2 ((eI g1 0 15).toNatClampNeg)) = some g' → (eI g' 0 15).toInt = q ∧ (eI g' 0 16).toInt = s ∧ TK k v (eI g' 0 17).toInt (eI g' 0 18).toInt := by
    intro hm e
    have hb : B s = mB g1 s := by unfold BR at tb; omega
    have y3 : y0.toInt = 3 := by unfold SIGN at hy; omega
    unfold f_X9_next_385 f_X9_next_439 at e
    by_cases c1 : eI (sI (sI (sI (sI g1 0 16 (eI g1 0 15)) 0 15 (eI g1 0 15 + 1)) 0 18 (eA g1 0 2 ((eI g1 0 15).toNatClampNeg))) 0 17 y0) 0 14 ≤ eI (sI (sI (sI (sI g1 0 16 (eI g1 0 15)) 0 15 (eI g1 0 15 + 1)) 0 18 (eA g1 0 2 ((eI g1 0 15).toNatClampNeg))) 0 17 y0) 0 15
    · rw [if_pos c1] at e
      have d1 : (eI g1 0 14).toInt ≤ (eI g1 0 15 + 1).toInt := gi_of_le c1
      exact short (fun w => by have := w.2.1; omega) (Option.some.inj e)
    · rw [if_neg c1] at e
      have d1 : (eI g1 0 15 + 1).toInt < (eI g1 0 14).toInt := gi_of_nle c1
      obtain ⟨-, e⟩ := ob_if e
      have tb2 := t.2 (s + 1) (by omega) (by omega)
      have eb2 : (eA g1 0 2 ((eI g1 0 15 + 1).toNatClampNeg)).toInt = mB g1 (s + 1) := by rw [← show (eI g1 0 15 + 1).toInt = s + 1 by omega]; rfl
      by_cases c2 : eA g1 0 2 ((eI g1 0 15 + 1).toNatClampNeg) = 61
      · have d2 := gi_of_eq c2
        have hl : TokL B L s := ⟨by omega, by omega, by unfold BR at tb2; omega⟩
        rcases k5 with k5 | k5
        · have e : (if eA g1 0 2 ((eI g1 0 15 + 1).toNatClampNeg) = 61 then (if eA g1 0 2 ((eI g1 0 15).toNatClampNeg) = 60 then f_X9_next_426 (sI (sI (sI (sI g1 0 16 (eI g1 0 15)) 0 15 (eI g1 0 15 + 1)) 0 18 (eA g1 0 2 ((eI g1 0 15).toNatClampNeg))) 0 17 y0) 300 else f_X9_next_426 (sI (sI (sI (sI g1 0 16 (eI g1 0 15)) 0 15 (eI g1 0 15 + 1)) 0 18 (eA g1 0 2 ((eI g1 0 15).toNatClampNeg))) 0 17 y0) 301) else _) = some g' := e
          rw [if_pos c2] at e
          unfold f_X9_next_426 f_X9_next_439 at e
          by_cases c3 : eA g1 0 2 ((eI g1 0 15).toNatClampNeg) = 60
          · rw [if_pos c3] at e
            have d3 := gi_of_eq c3
            cases e
            refine ⟨?_, a1, ?_⟩
            · show (eI g1 0 15 + 1 + 1).toInt = q
              rw [k5.2.2]; omega
            · show TK k v y0.toInt (300 : Int32).toInt
              have kk := k5.2.1
              have sk : skind (B s) = 3 := by
                rw [show B s = 60 by omega]; rfl
              exact Or.inr (Or.inr (Or.inr (Or.inr ⟨y3, (Or.inr (Or.inl ⟨by omega, rfl⟩))⟩)))
          · rw [if_neg c3] at e
            have d3 := gi_of_ne c3
            cases e
            refine ⟨?_, a1, ?_⟩
            · show (eI g1 0 15 + 1 + 1).toInt = q
              rw [k5.2.2]; omega
            · show TK k v y0.toInt (301 : Int32).toInt
              have kk := k5.2.1
              have sk : skind (B s) = 5 := by
                rw [show B s = 62 by omega]; rfl
              exact Or.inr (Or.inr (Or.inr (Or.inr ⟨y3, (Or.inr (Or.inr (Or.inr (Or.inl ⟨by omega, rfl⟩))))⟩)))
        · exact absurd hl k5.1
      · have e : (if eA g1 0 2 ((eI g1 0 15 + 1).toNatClampNeg) = 61 then _ else some (sI (sI (sI (sI g1 0 16 (eI g1 0 15)) 0 15 (eI g1 0 15 + 1)) 0 18 (eA g1 0 2 ((eI g1 0 15).toNatClampNeg))) 0 17 y0)) = some g' := e
        rw [if_neg c2] at e
        have d2 := gi_of_ne c2
        refine short (fun w => ?_) (Option.some.inj e)
        have := w.2.2
        unfold BR at tb2
        omega
  by_cases c1 : eA g1 0 2 ((eI g1 0 15).toNatClampNeg) = 60
  · rw [if_pos c1] at e
    have d1 := gi_of_eq c1
    exact like (Or.inl (by omega)) e
  · rw [if_neg c1] at e
    have d1 := gi_of_ne c1
    by_cases c2 : eA g1 0 2 ((eI g1 0 15).toNatClampNeg) = 62
    · rw [if_pos c2] at e
      have d2 := gi_of_eq c2
      exact like (Or.inr (by omega)) e
    · rw [if_neg c2] at e
      have d2 := gi_of_ne c2
      unfold f_X9_next_439 at e
      refine short (fun w => ?_) (Option.some.inj e)
      have := w.1
      unfold BR at tb
      omega
theorem mx_next {B : Int → Int} {L p k s v q : Int} {g g' : HS} (e : f_X9_next g = some g') (hL : L ≤ 300) (t : MT B L g) (h0 : 0 ≤ p) (hp : (eI g 0 15).toInt = p) (tk : Tok B L p k s v q) : (eI g' 0 15).toInt = q ∧ (eI g' 0 16).toInt = s ∧ TK k v (eI g' 0 17).toInt (eI g' 0 18).toInt := by
  have z48 : (48 : Int32).toInt = 48 := rfl
  have z57 : (57 : Int32).toInt = 57 := rfl
  have z59 : (59 : Int32).toInt = 59 := rfl
  have z62 : (62 : Int32).toInt = 62 := rfl
  have z40 : (40 : Int32).toInt = 40 := rfl
  have z45 : (45 : Int32).toInt = 45 := rfl
  have z47 : (47 : Int32).toInt = 47 := rfl
  have z35 : (35 : Int32).toInt = 35 := rfl
  have z3 : (3 : Int32).toInt = 3 := rfl
  have z4 : (4 : Int32).toInt = 4 := rfl
  obtain ⟨k1, k2, k3, k4⟩ := tk
  unfold f_X9_next at e
  have hs : s = L ∨ ¬ isBl (B s) := by
    rcases k4 with k | k | k | k
    · exact Or.inl k.1
    · right; have := k.2.1; unfold isAl at this; unfold isBl; omega
    · right; have := k.2.1; unfold isNu at this; unfold isBl; omega
    · exact Or.inr k.2.1
  obtain ⟨g1, e1, a1, f1⟩ := mx_skip hL _ g g' e t (by omega) (by omega) k2 (fun j x y => k3 j (by omega) y) hs
  have t1 := MT_fr t f1 (by decide) (by decide)
  have tl := t1.1
  unfold f_X9_next_52 at e1
  by_cases c1 : eI g1 0 15 = eI g1 0 14
  · rw [if_pos c1] at e1
    cases e1
    have d := gi_of_eq c1
    rcases k4 with k | k | k | k
    · exact ⟨by show (eI g1 0 15).toInt = q; rw [a1, k.1, k.2.2], a1, Or.inl ⟨k.2.1, rfl⟩⟩
    · have := k.1; omega
    · have := k.1; omega
    · have := k.1; omega
  · rw [if_neg c1] at e1
    have d : ¬ (eI g1 0 15).toInt = (eI g1 0 14).toInt := gi_of_ne c1
    have lt : s < L := by omega
    obtain ⟨-, e1⟩ := ob_if e1
    have tb := t1.2 s (by omega) lt
    have eb : (eA g1 0 2 ((eI g1 0 15).toNatClampNeg)).toInt = mB g1 s := by rw [← a1]; rfl
    obtain ⟨r8, e8, e1⟩ := ob1_some e1
    have q8 := mx_isLetter e8
    rw [eb, BR_al tb] at q8
    rcases q8 with ⟨rfl, q8⟩ | ⟨rfl, q8⟩
    · rw [if_pos rfl] at e1
      obtain ⟨r10, e10, e1⟩ := ob1_some e1
      have q10 : (r10 = 0 ∧ ¬ isNu (B s)) ∨ (r10 = 1 ∧ isNu (B s)) := by
        rw [← BR_nu tb]
        unfold isNu
        have := mx_in e10
        rw [eb, z48, z57] at this
        exact this
      rcases q10 with ⟨rfl, q10⟩ | ⟨rfl, q10⟩
      · rw [if_pos rfl] at e1
        rcases k4 with k | k | k | k
        · have := k.1; omega
        · exact absurd k.2.1 q8
        · exact absurd k.2.1 q10
        · obtain ⟨r12, e12, e1⟩ := ob1_some e1
          have q12 := mx_in e12
          rw [eb, z59, z62] at q12
          rcases q12 with ⟨rfl, q12⟩ | ⟨rfl, q12⟩
          · rw [if_pos rfl] at e1
            obtain ⟨r14, e14, e1⟩ := ob1_some e1
            have q14 := mx_in e14
            rw [eb, z40, z45] at q14
            rcases q14 with ⟨rfl, q14⟩ | ⟨rfl, q14⟩
            · rw [if_pos rfl] at e1
              by_cases c47 : eA g1 0 2 ((eI g1 0 15).toNatClampNeg) = 47
              · rw [if_pos c47] at e1
                have d47 := gi_of_eq c47
                unfold f_X9_next_365 at e1
                exact mx_sign e1 hL t1 (by omega) lt a1 (Or.inl ⟨rfl, by unfold SIGN; omega⟩) k
              · rw [if_neg c47] at e1
                have d47 := gi_of_ne c47
                by_cases c35 : eA g1 0 2 ((eI g1 0 15).toNatClampNeg) = 35
                · rw [if_pos c35] at e1
                  have d35 := gi_of_eq c35
                  unfold f_X9_next_365 at e1
                  exact mx_sign e1 hL t1 (by omega) lt a1 (Or.inl ⟨rfl, by unfold SIGN; omega⟩) k
                · rw [if_neg c35] at e1
                  have d35 := gi_of_ne c35
                  exact mx_sign e1 hL t1 (by omega) lt a1 (Or.inr ⟨rfl, by unfold SIGN; omega⟩) k
            · rw [if_neg (by decide)] at e1
              unfold f_X9_next_365 at e1
              exact mx_sign e1 hL t1 (by omega) lt a1 (Or.inl ⟨rfl, by unfold SIGN; omega⟩) k
          · rw [if_neg (by decide)] at e1
            unfold f_X9_next_365 at e1
            exact mx_sign e1 hL t1 (by omega) lt a1 (Or.inl ⟨rfl, by unfold SIGN; omega⟩) k
      · rw [if_neg (by decide)] at e1
        rcases k4 with k | k | k | k
        · have := k.1; omega
        · exact absurd k.2.1 q8
        · obtain ⟨-, -, j1, j2, j3, j4, j5, j6⟩ := k
          have f2 : Fr [(0, 0, 16), (0, 0, 17), (0, 0, 18)] g1 (sI (sI (sI g1 0 16 (eI g1 0 15)) 0 17 2) 0 18 0) := Fr_sI (by decide) (Fr_sI (by decide) (Fr_sI (by decide) (Fr_refl _ _)))
          have a2 : (eI (sI (sI (sI g1 0 16 (eI g1 0 15)) 0 17 2) 0 18 0) 0 15).toInt = s := a1
          have o2 : (eI (sI (sI (sI g1 0 16 (eI g1 0 15)) 0 17 2) 0 18 0) 0 18).toInt = 0 := rfl
          obtain ⟨m1, m2, m3⟩ := mx_num (q := q) hL _ _ g' e1 (MT_fr t1 f2 (by decide) (by decide)) (by omega) (by omega) j2 (fun j x y => j3 j (by omega) y) j4 (by omega) (by omega)
          rw [a2, o2] at m3
          refine ⟨m1, ?_, ?_⟩
          · rw [m2.1 0 16 (by decide)]; exact a1
          · rw [m2.1 0 17 (by decide), m3, j5, j6]
            refine Or.inr (Or.inl ⟨rfl, rfl, ?_⟩)
            exact nv_rel _ 0 0 (seg_all (P := isNu) _ _ (fun j x y => j3 j x (by omega))) (Or.inl ⟨rfl, by omega, by omega⟩)
        · exact absurd q10 k.2.2.2.1
    · rw [if_neg (by decide)] at e1
      rcases k4 with k | k | k | k
      · have := k.1; omega
      · obtain ⟨-, -, j1, j2, j3, j4, j5⟩ := k
        have f2 : Fr [(0, 0, 16)] g1 (sI g1 0 16 (eI g1 0 15)) := Fr_sI (by decide) (Fr_refl _ _)
        have a2 : (eI (sI g1 0 16 (eI g1 0 15)) 0 15).toInt = s := a1
        have z0 : (0 : Int32).toInt = 0 := rfl
        have y0 : (0 : Int64).toInt = 0 := rfl
        have m0 : MM (0 : Int32).toInt.toNat = 1 := rfl
        obtain ⟨g2, y2, y4, m1, m2, m3, m4, m5⟩ := mx_word (q := q) hL _ _ g' 0 0 e1 (MT_fr t1 f2 (by decide) (by decide)) (by omega) (by omega) j2 (fun j x y => j3 j (by omega) y) j4 (by omega) (by omega) (fun _ => by omega)
        rw [a2] at m4 m5
        have sl := seg_len B (q - s).toNat s
        have dg : DG (seg B s (q - s).toNat) := by
          intro b hb
          have := seg_all (P := isAl) _ _ (fun j x y => j3 j x (by omega)) b hb
          unfold isAl at this
          omega
        obtain ⟨w1, w2, w3⟩ := mx_173 m1 dg (by rw [sl]; omega) (fun w => by rw [m5 w, y0])
        refine ⟨by rw [w1]; exact m2, ?_, ?_⟩
        · rw [w2, m3.1 0 16 (by decide)]; exact a1
        · rw [j5]
          have kr := wkind_rng (seg B s (q - s).toNat)
          exact TK_v w3 (by omega) v
      · have := k.2.1
        unfold isNu at this
        unfold isAl at q8
        omega
      · exact absurd q8 k.2.2.1
theorem TK_nn {k v so t : Int} (h : TK k v so t) : 0 ≤ k ∧ k ≤ 37 := by
  rcases h with u | u | u | u | u
  · omega
  · omega
  · omega
  · omega
  · have := u.2
    unfold SG at this
    omega
