/-! the class's tokens -/
def cB (h : HS) (j : Int) : Int := (eA h 3 0 j.toNat).toInt
def cL (h : HS) : Int := (eI h 3 1).toInt
theorem cx_byteAt {h : HS} {x : Int32} {z : Int32 × HS} (e : f_X5_byteAt h x = some z) (hL : cL h ≤ 300) : z.2 = h ∧ ((0 ≤ x.toInt ∧ x.toInt < cL h ∧ z.1.toInt = cB h x.toInt) ∨ (¬ (0 ≤ x.toInt ∧ x.toInt < cL h) ∧ z.1 = 0)) := by
  have z0 : (0 : Int32).toInt = 0 := rfl
  have z300 : (300 : Int32).toInt = 300 := rfl
  unfold cL at *
  unfold f_X5_byteAt f_X5_byteAt_30 f_X5_byteAt_31 at e
  by_cases c1 : x < 0
  · rw [if_pos c1] at e; cases e
    exact ⟨rfl, Or.inr ⟨by have := gi_of_lt c1; omega, rfl⟩⟩
  · rw [if_neg c1] at e
    have d1 := gi_of_nlt c1
    by_cases c2 : eI h 3 1 ≤ x
    · rw [if_pos c2] at e; cases e
      exact ⟨rfl, Or.inr ⟨by have := gi_of_le c2; omega, rfl⟩⟩
    · rw [if_neg c2] at e
      have d2 := gi_of_nle c2
      rw [if_neg (fun c => by have := gi_of_le c; omega)] at e
      obtain ⟨-, e⟩ := ob_if e
      cases e
      exact ⟨rfl, Or.inl ⟨by omega, by omega, by show (eA h 3 0 x.toNatClampNeg).toInt = _; rw [Int32.toNatClampNeg]; rfl⟩⟩
theorem cx_isBlank {x r : Int32} (e : f_X7_isBlank x = some r) : (r = 0 ∧ ¬ isBl x.toInt) ∨ (r = 1 ∧ isBl x.toInt) := by
  have z1 : (32 : Int32).toInt = 32 := rfl
  have z2 : (10 : Int32).toInt = 10 := rfl
  unfold f_X7_isBlank f_X7_isBlank_12 f_X7_isBlank_17 at e
  unfold isBl
  by_cases c1 : x = 32
  · rw [if_pos c1] at e; cases e
    exact Or.inr ⟨rfl, by have := gi_of_eq c1; omega⟩
  · rw [if_neg c1] at e
    by_cases c2 : x = 10
    · rw [if_pos c2] at e; cases e
      exact Or.inr ⟨rfl, by have := gi_of_eq c2; omega⟩
    · rw [if_neg c2] at e; cases e
      exact Or.inl ⟨rfl, by have := gi_of_ne c1; have := gi_of_ne c2; omega⟩
theorem cx_isAlpha {x r : Int32} (e : f_X7_isAlpha x = some r) : (r = 0 ∧ ¬ isAl x.toInt) ∨ (r = 1 ∧ isAl x.toInt) := by
  have z1 : (97 : Int32).toInt = 97 := rfl
  have z2 : (122 : Int32).toInt = 122 := rfl
  have z3 : (65 : Int32).toInt = 65 := rfl
  have z4 : (90 : Int32).toInt = 90 := rfl
  unfold f_X7_isAlpha f_X7_isAlpha_12 f_X7_isAlpha_24 f_X7_isAlpha_28 f_X7_isAlpha_29 at e
  unfold isAl
  by_cases c1 : x < 97
  · rw [if_pos c1] at e
    have d1 := gi_of_lt c1
    by_cases c3 : x < 65
    · rw [if_pos c3] at e; cases e
      exact Or.inl ⟨rfl, by have := gi_of_lt c3; omega⟩
    · rw [if_neg c3] at e
      by_cases c4 : 90 < x
      · rw [if_pos c4] at e; cases e
        exact Or.inl ⟨rfl, by have := gi_of_lt c4; omega⟩
      · rw [if_neg c4] at e; cases e
        exact Or.inr ⟨rfl, by have := gi_of_nlt c3; have := gi_of_nlt c4; omega⟩
  · rw [if_neg c1] at e
    have d1 := gi_of_nlt c1
    by_cases c2 : x ≤ 122
    · rw [if_pos c2] at e; cases e
      exact Or.inr ⟨rfl, by have := gi_of_le c2; omega⟩
    · rw [if_neg c2] at e
      have d2 := gi_of_nle c2
      by_cases c3 : x < 65
      · exact absurd (gi_of_lt c3) (by omega)
      · rw [if_neg c3] at e
        by_cases c4 : 90 < x
        · rw [if_pos c4] at e; cases e
          exact Or.inl ⟨rfl, by omega⟩
        · exact absurd (gi_of_nlt c4) (by omega)
theorem cx_isNumeral {x r : Int32} (e : f_X7_isNumeral x = some r) : (r = 0 ∧ ¬ isNu x.toInt) ∨ (r = 1 ∧ isNu x.toInt) := by
  have z1 : (48 : Int32).toInt = 48 := rfl
  have z2 : (57 : Int32).toInt = 57 := rfl
  unfold f_X7_isNumeral f_X7_isNumeral_16 f_X7_isNumeral_17 at e
  unfold isNu
  by_cases c1 : x < 48
  · rw [if_pos c1] at e; cases e
    exact Or.inl ⟨rfl, by have := gi_of_lt c1; omega⟩
  · rw [if_neg c1] at e
    by_cases c2 : 57 < x
    · rw [if_pos c2] at e; cases e
      exact Or.inl ⟨rfl, by have := gi_of_lt c2; omega⟩
    · rw [if_neg c2] at e; cases e
      exact Or.inr ⟨rfl, by have := gi_of_nlt c1; have := gi_of_nlt c2; omega⟩
theorem cx_signKind {x r : Int32} (e : f_X7_signKind x = some r) : r.toInt = skind x.toInt := by
  have key : ∀ n : Fin 30, f_X7_signKind (Int32.ofInt ((n.val : Int) + 34)) = some (Int32.ofInt (skind ((n.val : Int) + 34))) := by decide +kernel
  by_cases h : 34 ≤ x.toInt ∧ x.toInt < 64
  · obtain ⟨m, hm⟩ := Int.eq_ofNat_of_zero_le (show 0 ≤ x.toInt - 34 by omega)
    have k := key ⟨m, by omega⟩
    have ex : x = Int32.ofInt ((m : Int) + 34) := by rw [← Int32.ofInt_toInt x]; congr 1; omega
    have k2 : f_X7_signKind x = some (Int32.ofInt (skind ((m : Int) + 34))) := by rw [ex]; exact k
    rw [k2] at e
    cases e
    have hx : x.toInt = (m : Int) + 34 := by omega
    rw [hx]
    have key2 : ∀ n : Fin 30, (Int32.ofInt (skind ((n.val : Int) + 34))).toInt = skind ((n.val : Int) + 34) := by decide +kernel
    exact key2 ⟨m, by omega⟩
  · have ne : ∀ (c : Int32), 34 ≤ c.toInt → c.toInt < 64 → ¬ x = c := fun c h1 h2 q => h (by rw [q]; exact ⟨h1, h2⟩)
    unfold f_X7_signKind at e
    rw [if_neg (ne 35 (by decide) (by decide)), if_neg (ne 36 (by decide) (by decide)), if_neg (ne 37 (by decide) (by decide)), if_neg (ne 38 (by decide) (by decide)), if_neg (ne 39 (by decide) (by decide)), if_neg (ne 40 (by decide) (by decide)), if_neg (ne 41 (by decide) (by decide)), if_neg (ne 42 (by decide) (by decide)), if_neg (ne 43 (by decide) (by decide)), if_neg (ne 44 (by decide) (by decide)), if_neg (ne 45 (by decide) (by decide)), if_neg (ne 46 (by decide) (by decide)), if_neg (ne 47 (by decide) (by decide)), if_neg (ne 48 (by decide) (by decide)), if_neg (ne 49 (by decide) (by decide)), if_neg (ne 50 (by decide) (by decide)), if_neg (ne 51 (by decide) (by decide)), if_neg (ne 52 (by decide) (by decide)), if_neg (ne 53 (by decide) (by decide)), if_neg (ne 54 (by decide) (by decide)), if_neg (ne 55 (by decide) (by decide)), if_neg (ne 56 (by decide) (by decide)), if_neg (ne 57 (by decide) (by decide)), if_neg (ne 58 (by decide) (by decide)), if_neg (ne 59 (by decide) (by decide)), if_neg (ne 60 (by decide) (by decide)), if_neg (ne 61 (by decide) (by decide)), if_neg (ne 62 (by decide) (by decide))] at e
    cases e
    unfold skind
    rw [if_neg (by omega), if_neg (by omega), if_neg (by omega), if_neg (by omega), if_neg (by omega), if_neg (by omega), if_neg (by omega), if_neg (by omega), if_neg (by omega), if_neg (by omega), if_neg (by omega)]
    rfl
theorem cx_add {h h' : HS} {k s v : Int32} (e : f_X7_add h k s v = some h') (h0 : 0 ≤ (eI h 4 3).toInt) (h1 : (eI h 4 3).toInt < 301) : h' = sI (sA (sA (sA h 4 0 (upd (eA h 4 0) (eI h 4 3).toInt.toNat k)) 4 1 (upd (eA h 4 1) (eI h 4 3).toInt.toNat s)) 4 2 (upd (eA h 4 2) (eI h 4 3).toInt.toNat v)) 4 3 (eI h 4 3 + 1) := by
  have z : (301 : Int32).toInt = 301 := rfl
  unfold f_X7_add f_X7_add_76 at e
  rw [if_neg (fun c => by have := gi_of_le c; omega)] at e
  obtain ⟨-, e⟩ := ob_if e
  obtain ⟨-, e⟩ := ob_if e
  obtain ⟨-, e⟩ := ob_if e
  cases e
  rfl
theorem cx_charAt {x r : Int32} {pre cs : List Int} {c : Int} (e : f_J0_charAt x = some r) (hW : WB = pre ++ c :: cs) (hx : x.toInt = (pre.length : Int)) : r.toInt = c := by
  unfold f_J0_charAt at e
  obtain ⟨-, e⟩ := ob_if e
  cases e
  have h1 : WB[pre.length]? = some c := by
    rw [hW, List.getElem?_append_right (Nat.le_refl _), Nat.sub_self]; rfl
  unfold WB at h1
  rw [List.getElem?_map] at h1
  have h2 : x.toNatClampNeg = pre.length := by rw [Int32.toNatClampNeg, hx]; rfl
  rw [h2, List.getD_eq_getElem?_getD]
  cases hg : gWb[pre.length]? with
  | none => rw [hg] at h1; cases h1
  | some a => rw [hg] at h1; exact Option.some.inj h1
theorem cx_wk {h : HS} {x1 x2 : Int32} (h1 : 0 ≤ x1.toInt) (h2 : 0 ≤ x2.toInt) (h3 : x1.toInt + x2.toInt ≤ cL h) (hL : cL h ≤ 300) : ∀ (n : Nat) (x3 x4 x5 x6 : Int32) (z : Int32 × HS) (pre cs : List Int) (k : Int), f_X7_wordKind_12 n h x1 x2 x3 x4 x5 x6 = some z → WB = pre ++ cs → x6.toInt = (pre.length : Int) → 0 ≤ x4.toInt → x4.toInt ≤ x6.toInt → x3.toInt = 16 + k → 0 ≤ k → k ≤ x6.toInt → (x5 = 0 ∨ (x5 = 1 ∧ x6.toInt - x4.toInt ≤ x2.toInt)) → z.2 = h ∧ z.1.toInt = scan cs (seg (cB h) x1.toInt x2.toInt.toNat) (seg (cB h) (x1.toInt + (x6.toInt - x4.toInt)) (x2.toInt - (x6.toInt - x4.toInt)).toNat) (decide (x5 = 1)) k := by
  have z1 : (1 : Int32).toInt = 1 := rfl
  have z32 : (32 : Int32).toInt = 32 := rfl
  have z121 : (121 : Int32).toInt = 121 := rfl
  intro n
  induction n with
  | zero => intro x3 x4 x5 x6 z pre cs k e; cases e
  | succ n ih =>
    intro x3 x4 x5 x6 z pre cs k e hW hx h40 h46 h3k hk0 hk6 h5
    have hlen := congrArg List.length hW
    rw [WB_len, List.length_append] at hlen
    rw [f_X7_wordKind_12_s] at e
    obtain ⟨r1, e1, e⟩ := ob1_some e
    unfold f_J0_length at e1
    cases e1
    by_cases c1 : (121 : Int32) ≤ x6
    · rw [if_pos c1] at e
      cases e
      have := gi_of_le c1
      have hc : cs.length = 0 := by omega
      rw [List.length_eq_zero_iff.mp hc]
      exact ⟨rfl, rfl⟩
    · rw [if_neg c1] at e
      have d1 := gi_of_nle c1
      obtain ⟨r3, e3, e⟩ := ob1_some e
      have a6 := fb_addI (x := x6) (y := 1) (by omega) (by omega)
      have a3 := fb_addI (x := x3) (y := 1) (by omega) (by omega)
      cases cs with
      | nil => rw [List.length_nil] at hlen; omega
      | cons c cs =>
        rw [List.length_cons] at hlen
        have hr := cx_charAt e3 hW hx
        have hW' : WB = (pre ++ [c]) ++ cs := by rw [hW, List.append_assoc]; rfl
        have hx' : (x6 + 1).toInt = ((pre ++ [c]).length : Int) := by rw [List.length_append]; show _ = ((pre.length + 1 : Nat) : Int); omega
        by_cases c3 : r3 = 32
        · have hc : c = 32 := by have := gi_of_eq c3; omega
          subst hc
          rw [if_pos c3] at e
          rw [scan_bl]
          have goB : ∀ (z : Int32 × HS), f_X7_wordKind_94 (f_X7_wordKind_12 n) h x1 x2 x3 x6 = some z → z.2 = h ∧ z.1.toInt = scan cs (seg (cB h) x1.toInt x2.toInt.toNat) (seg (cB h) x1.toInt x2.toInt.toNat) true (k + 1) := by
            intro z e
            unfold f_X7_wordKind_94 f_X7_wordKind_106 at e
            have q := ih (x3 + 1) (x6 + 1) 1 (x6 + 1) z (pre ++ [32]) cs (k + 1) e hW' hx' (by omega) (by omega) (by omega) (by omega) (by omega) (Or.inr ⟨rfl, by omega⟩)
            rw [show x1.toInt + ((x6 + 1).toInt - (x6 + 1).toInt) = x1.toInt by omega, show x2.toInt - ((x6 + 1).toInt - (x6 + 1).toInt) = x2.toInt by omega] at q
            exact q
          rcases h5 with h5 | ⟨h5, h56⟩
          · subst h5
            rw [if_pos rfl] at e
            rw [if_neg (by simp)]
            exact goB z e
          · subst h5
            rw [if_neg (by decide)] at e
            have s1 := fb_subI (x := x6) (y := x4) (by omega) (by omega)
            by_cases c6 : x6 - x4 = x2
            · rw [if_pos c6] at e
              cases e
              have d6 := gi_of_eq c6
              rw [show (x2.toInt - (x6.toInt - x4.toInt)).toNat = 0 by omega]
              rw [if_pos ⟨by decide, rfl⟩]
              exact ⟨rfl, h3k⟩
            · rw [if_neg c6] at e
              have d6 := gi_of_ne c6
              obtain ⟨m, hm⟩ : ∃ m : Nat, (x2.toInt - (x6.toInt - x4.toInt)).toNat = m + 1 := ⟨(x2.toInt - (x6.toInt - x4.toInt)).toNat - 1, by omega⟩
              rw [hm, if_neg (fun q => by cases q.2)]
              exact goB z e
        · have hc : ¬ c = 32 := fun q => c3 (gi_eq (by omega))
          rw [if_neg c3] at e
          have go : ∀ (y : Int32) (z : Int32 × HS), f_X7_wordKind_12 n h x1 x2 x3 x4 y (x6 + 1) = some z → (y = 0 ∨ (y = 1 ∧ (x6 + 1).toInt - x4.toInt ≤ x2.toInt)) → z.2 = h ∧ z.1.toInt = scan cs (seg (cB h) x1.toInt x2.toInt.toNat) (seg (cB h) (x1.toInt + (x6.toInt - x4.toInt) + 1) (x2.toInt - (x6.toInt - x4.toInt) - 1).toNat) (decide (y = 1)) k := by
            intro y z e hy
            have q := ih x3 x4 y (x6 + 1) z (pre ++ [c]) cs k e hW' hx' h40 (by omega) h3k hk0 (by omega) hy
            rw [show x1.toInt + ((x6 + 1).toInt - x4.toInt) = x1.toInt + (x6.toInt - x4.toInt) + 1 by omega, show x2.toInt - ((x6 + 1).toInt - x4.toInt) = x2.toInt - (x6.toInt - x4.toInt) - 1 by omega] at q
            exact q
          have s1 := fb_subI (x := x6) (y := x4) (by omega) (by omega)
          have no : ∀ (sm : Bool) (z : Int32 × HS), f_X7_wordKind_12 n h x1 x2 x3 x4 0 (x6 + 1) = some z → (sm = false ∨ x2.toInt ≤ x6.toInt - x4.toInt) → z.2 = h ∧ z.1.toInt = scan (c :: cs) (seg (cB h) x1.toInt x2.toInt.toNat) (seg (cB h) (x1.toInt + (x6.toInt - x4.toInt)) (x2.toInt - (x6.toInt - x4.toInt)).toNat) sm k := by
            intro sm z e hs
            have q := go 0 z e (Or.inl rfl)
            by_cases c7 : x2.toInt ≤ x6.toInt - x4.toInt
            · rw [show (x2.toInt - (x6.toInt - x4.toInt)).toNat = 0 by omega]
              rw [show (x2.toInt - (x6.toInt - x4.toInt) - 1).toNat = 0 by omega] at q
              show _ ∧ _ = scan (c :: cs) _ [] sm k
              rw [scan_c0 hc]
              exact q
            · have hs : sm = false := by
                rcases hs with hs | hs
                · exact hs
                · exact absurd hs c7
              subst hs
              obtain ⟨m, hm⟩ : ∃ m : Nat, (x2.toInt - (x6.toInt - x4.toInt)).toNat = m + 1 := ⟨(x2.toInt - (x6.toInt - x4.toInt)).toNat - 1, by omega⟩
              rw [hm]
              rw [show (x2.toInt - (x6.toInt - x4.toInt) - 1).toNat = m by omega] at q
              show _ ∧ _ = scan (c :: cs) _ (cB h _ :: seg (cB h) _ m) false k
              rw [scan_c1 hc, Bool.false_and]
              exact q
          rcases h5 with h5 | ⟨h5, h56⟩
          · subst h5
            rw [if_pos rfl] at e
            unfold f_X7_wordKind_72 f_X7_wordKind_73 f_X7_wordKind_106 at e
            exact no _ z e (Or.inl (by decide))
          · subst h5
            rw [if_neg (by decide)] at e
            by_cases c8 : x2 ≤ x6 - x4
            · rw [if_pos c8] at e
              unfold f_X7_wordKind_72 f_X7_wordKind_73 f_X7_wordKind_106 at e
              exact no _ z e (Or.inr (by have := gi_of_le c8; omega))
            · rw [if_neg c8] at e
              have d8 := gi_of_nle c8
              obtain ⟨r9, h9, e9, e⟩ := ob2_some e
              have s2 := fb_addI (x := x1) (y := x6) (by omega) (by omega)
              have s3 := fb_subI (x := x1 + x6) (y := x4) (by omega) (by omega)
              obtain ⟨g1, g2⟩ := cx_byteAt e9 hL
              obtain rfl : h = h9 := g1.symm
              rcases g2 with ⟨-, -, g3⟩ | ⟨g3, -⟩
              · have g3 : r9.toInt = cB h (x1 + x6 - x4).toInt := g3
                rw [show (x1 + x6 - x4).toInt = x1.toInt + (x6.toInt - x4.toInt) by omega] at g3
                by_cases c9 : r9 = r3
                · rw [if_pos c9] at e
                  unfold f_X7_wordKind_73 f_X7_wordKind_106 at e
                  have q := go 1 z e (Or.inr ⟨rfl, by omega⟩)
                  obtain ⟨m, hm⟩ : ∃ m : Nat, (x2.toInt - (x6.toInt - x4.toInt)).toNat = m + 1 := ⟨(x2.toInt - (x6.toInt - x4.toInt)).toNat - 1, by omega⟩
                  rw [hm]
                  rw [show (x2.toInt - (x6.toInt - x4.toInt) - 1).toNat = m by omega] at q
                  show _ ∧ _ = scan (c :: cs) _ (cB h _ :: seg (cB h) _ m) _ k
                  rw [scan_c1 hc, ← g3, show (decide (r9.toInt = c)) = true from decide_eq_true (by rw [c9]; exact hr), Bool.and_true]
                  exact q
                · rw [if_neg c9] at e
                  unfold f_X7_wordKind_72 f_X7_wordKind_73 f_X7_wordKind_106 at e
                  have q := go 0 z e (Or.inl rfl)
                  obtain ⟨m, hm⟩ : ∃ m : Nat, (x2.toInt - (x6.toInt - x4.toInt)).toNat = m + 1 := ⟨(x2.toInt - (x6.toInt - x4.toInt)).toNat - 1, by omega⟩
                  rw [hm]
                  rw [show (x2.toInt - (x6.toInt - x4.toInt) - 1).toNat = m by omega] at q
                  show _ ∧ _ = scan (c :: cs) _ (cB h _ :: seg (cB h) _ m) _ k
                  rw [scan_c1 hc, ← g3, show (decide (r9.toInt = c)) = false from decide_eq_false (fun y => c9 (gi_eq (by rw [hr]; exact y))), Bool.and_false]
                  exact q
              · exact absurd ⟨by omega, by omega⟩ g3
theorem cx_wordKind {h : HS} {x1 x2 : Int32} {z : Int32 × HS} (e : f_X7_wordKind h x1 x2 = some z) (h1 : 0 ≤ x1.toInt) (h2 : 0 ≤ x2.toInt) (h3 : x1.toInt + x2.toInt ≤ cL h) (hL : cL h ≤ 300) : z.2 = h ∧ z.1.toInt = wkind (seg (cB h) x1.toInt x2.toInt.toNat) := by
  unfold f_X7_wordKind at e
  have z0 : (0 : Int32).toInt = 0 := rfl
  have q := cx_wk h1 h2 h3 hL _ 16 0 1 0 z [] WB 0 e rfl rfl (by omega) (by omega) rfl (by omega) (by omega) (Or.inr ⟨rfl, by omega⟩)
  rw [show x1.toInt + ((0 : Int32).toInt - (0 : Int32).toInt) = x1.toInt by omega, show x2.toInt - ((0 : Int32).toInt - (0 : Int32).toInt) = x2.toInt by omega] at q
  rw [← scan_WB]
  exact q
