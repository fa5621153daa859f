/-! the two programs' steps, told as one -/
def OPR (k p : Int) : Prop := (k = 9 ∧ p = 43) ∨ (k = 10 ∧ p = 45) ∨ (k = 11 ∧ p = 42) ∨ (k = 12 ∧ p = 47) ∨ (k = 3 ∧ p = 60) ∨ (k = 4 ∧ p = 300) ∨ (k = 5 ∧ p = 62) ∨ (k = 6 ∧ p = 301) ∨ (k = 7 ∧ p = 61) ∨ (k = 8 ∧ p = 35) ∨ (k = 27 ∧ p = 406) ∨ (k = 26 ∧ p = 407) ∨ (k = 28 ∧ p = 405) ∨ (k = 38 ∧ p = 402)
def OPK (s p : Int) : Prop := 20000 ≤ s ∧ OPR (s - 20000) p
theorem SG_OPR {k t : Int} (h : SG k t) (hk : k ≤ 12) : OPR k t := by
  rcases h with h | h | h | h | h | h | h | h | h | h | h | h | h
  · exact (Or.inr (Or.inr (Or.inr (Or.inr (Or.inl h)))))
  · exact (Or.inr (Or.inr (Or.inr (Or.inr (Or.inr (Or.inl h))))))
  · exact (Or.inr (Or.inr (Or.inr (Or.inr (Or.inr (Or.inr (Or.inl h)))))))
  · exact (Or.inr (Or.inr (Or.inr (Or.inr (Or.inr (Or.inr (Or.inr (Or.inl h))))))))
  · exact (Or.inr (Or.inr (Or.inr (Or.inr (Or.inr (Or.inr (Or.inr (Or.inr (Or.inl h)))))))))
  · exact (Or.inr (Or.inr (Or.inr (Or.inr (Or.inr (Or.inr (Or.inr (Or.inr (Or.inr (Or.inl h))))))))))
  · exact (Or.inl h)
  · exact (Or.inr (Or.inl h))
  · exact (Or.inr (Or.inr (Or.inl h)))
  · exact (Or.inr (Or.inr (Or.inr (Or.inl h))))
  · omega
  · omega
  · omega
theorem OPK_of {k p : Int} (h : OPR k p) (hk : 0 ≤ k) : OPK (20000 + k) p := ⟨by omega, by rw [show 20000 + k - 20000 = k by omega]; exact h⟩
def CR (s p v : Int) : Prop := (0 ≤ s ∧ s ≤ 9999 ∧ p = 400 ∧ v = s) ∨ (10000 ≤ s ∧ s ≤ 10008 ∧ p = 401 ∧ v = s - 10000) ∨ OPK s p
def PD (st : Nat → Int32) : Nat → List Int → Prop
  | _, [] => True
  | i, p :: r => OPK (st i).toInt p ∧ PD st (i + 1) r
theorem PD_congr {a b : Nat → Int32} : ∀ (ps : List Int) (i : Nat), (∀ j : Nat, i ≤ j → j < i + ps.length → b j = a j) → PD a i ps → PD b i ps := by
  intro ps
  induction ps with
  | nil => intro i _ _; trivial
  | cons p r ih =>
    intro i h x
    rw [List.length_cons] at h
    exact ⟨by rw [h i (Nat.le_refl _) (by omega)]; exact x.1, ih (i + 1) (fun j h1 h2 => h j (by omega) (by omega)) x.2⟩
theorem PD_snoc {a : Nat → Int32} {p : Int} : ∀ (ps : List Int) (i : Nat), PD a i ps → OPK (a (i + ps.length)).toInt p → PD a i (ps ++ [p]) := by
  intro ps
  induction ps with
  | nil => intro i _ h; exact ⟨h, trivial⟩
  | cons q r ih =>
    intro i x h
    rw [List.length_cons] at h
    refine ⟨x.1, ih (i + 1) x.2 ?_⟩
    rw [show i + 1 + r.length = i + (r.length + 1) by omega]
    exact h
theorem PD_EMI {a b : Nat → Int32} : ∀ (ps : List Int) (i j : Nat), PD a i ps → EMI b j ps → ∀ r : Nat, r < ps.length → OPK (a (i + r)).toInt (b (j + r)).toInt := by
  intro ps
  induction ps with
  | nil => intro i j _ _ r hr; exact absurd hr (Nat.not_lt_zero _)
  | cons p q ih =>
    intro i j x y r hr
    rw [List.length_cons] at hr
    cases r with
    | zero =>
      show OPK (a i).toInt (b j).toInt
      rw [y.1]; exact x.1
    | succ r =>
      have k := ih (i + 1) (j + 1) x.2 y.2 r (by omega)
      rw [show i + (r + 1) = i + 1 + r by omega, show j + (r + 1) = j + 1 + r by omega]
      exact k
theorem WD_snoc {w wf : Nat → Int32} {F p : Int} : ∀ (ps : List Int) (n : Nat), WD w wf F (n + 1 + ps.length) ps → (w n).toInt = p → (wf n).toInt = F → WD w wf F (n + 1 + ps.length) (ps ++ [p]) := by
  intro ps
  induction ps with
  | nil => intro n _ h1 h2; exact ⟨n, rfl, h1, h2, trivial⟩
  | cons q r ih =>
    intro n x h1 h2
    rw [List.length_cons] at x ⊢
    obtain ⟨m, hm, x1, x2, x3⟩ := x
    have em : m = n + 1 + r.length := by omega
    subst em
    exact ⟨n + 1 + r.length, hm, x1, x2, ih n x3 h1 h2⟩
theorem WD_congr {w wf w' wf' : Nat → Int32} {F : Int} : ∀ (ps : List Int) (n : Nat), (∀ i : Nat, i < n → w' i = w i ∧ wf' i = wf i) → WD w wf F n ps → WD w' wf' F n ps := by
  intro ps
  induction ps with
  | nil => intro n _ _; trivial
  | cons q r ih =>
    intro n h x
    obtain ⟨m, hm, x1, x2, x3⟩ := x
    have k := h m (by omega)
    exact ⟨m, hm, by rw [k.1]; exact x1, by rw [k.2]; exact x2, ih m (fun i hi => h i (by omega)) x3⟩
def CDR (st od vd : Nat → Int32) (d : Nat) (a b : Int) : Prop := ∀ i : Nat, a ≤ (i : Int) → (i : Int) < b → CR (st i).toInt (od (i + d)).toInt (vd (i + d)).toInt
def CC (o d : Nat) (h g h' g' : HS) (ps : List Int) : Prop := 0 ≤ (eI h o 5).toInt ∧ (eI g 0 36).toInt = (eI h o 5).toInt + (d : Int) ∧ (eI h o 5).toInt ≤ (eI h' o 5).toInt - (ps.length : Int) ∧ (eI g' 0 36).toInt + (ps.length : Int) = (eI h' o 5).toInt + (d : Int) ∧ (∀ i : Nat, (i : Int) < (eI h o 5).toInt → eA h' o 2 i = eA h o 2 i) ∧ (∀ i : Nat, (i : Int) < (eI g 0 36).toInt → eA g' 0 37 i = eA g 0 37 i ∧ eA g' 0 38 i = eA g 0 38 i) ∧ CDR (eA h' o 2) (eA g' 0 37) (eA g' 0 38) d (eI h o 5).toInt ((eI h' o 5).toInt - (ps.length : Int)) ∧ PD (eA h' o 2) ((eI h' o 5).toInt - (ps.length : Int)).toNat ps
theorem CC_refl {o d : Nat} {h g : HS} (n : 0 ≤ (eI h o 5).toInt) (b : (eI g 0 36).toInt = (eI h o 5).toInt + (d : Int)) : CC o d h g h g [] := by
  have l : (([] : List Int).length : Int) = 0 := rfl
  refine ⟨n, b, by omega, by omega, fun _ _ => rfl, fun _ _ => ⟨rfl, rfl⟩, fun i h1 h2 => ?_, trivial⟩
  omega
theorem CC_trans {o d : Nat} {h g h1 g1 h2 g2 : HS} {ps : List Int} (x : CC o d h g h1 g1 []) (y : CC o d h1 g1 h2 g2 ps) : CC o d h g h2 g2 ps := by
  have l : (([] : List Int).length : Int) = 0 := rfl
  obtain ⟨x0, x1, x2, x3, x4, x5, x6, x7⟩ := x
  obtain ⟨y0, y1, y2, y3, y4, y5, y6, y7⟩ := y
  refine ⟨x0, x1, by omega, y3, fun i hi => (y4 i (by omega)).trans (x4 i hi), fun i hi => ?_, fun i q1 q2 => ?_, y7⟩
  · have a := y5 i (by omega)
    have b := x5 i hi
    exact ⟨a.1.trans b.1, a.2.trans b.2⟩
  · by_cases c : (i : Int) < (eI h1 o 5).toInt
    · have a := y5 (i + d) (by omega)
      rw [y4 i c, a.1, a.2]
      exact x6 i q1 (by omega)
    · exact y6 i (by omega) q2
theorem CC_same {o d : Nat} {h g h1 g1 h2 g2 : HS} {ps : List Int} (x : CC o d h g h1 g1 ps) (a1 : eI h2 o 5 = eI h1 o 5) (a2 : eA h2 o 2 = eA h1 o 2) (a3 : eI g2 0 36 = eI g1 0 36) (a4 : eA g2 0 37 = eA g1 0 37) (a5 : eA g2 0 38 = eA g1 0 38) : CC o d h g h2 g2 ps := by
  unfold CC at *
  rw [a1, a2, a3, a4, a5]
  exact x
theorem CC_left {o d : Nat} {h g h1 g1 h2 g2 : HS} {ps : List Int} (x : CC o d h2 g2 h1 g1 ps) (a1 : eI h2 o 5 = eI h o 5) (a2 : eA h2 o 2 = eA h o 2) (a3 : eI g2 0 36 = eI g 0 36) (a4 : eA g2 0 37 = eA g 0 37) (a5 : eA g2 0 38 = eA g 0 38) : CC o d h g h1 g1 ps := by
  unfold CC at *
  rw [a1, a2, a3, a4, a5] at x
  exact x
theorem CC_emit {o d : Nat} {h g h1 g1 h2 g2 : HS} {s p v : Int32} (x : CC o d h g h1 g1 []) (c1 : (eI h2 o 5).toInt = (eI h1 o 5).toInt + 1) (c2 : eA h2 o 2 = upd (eA h1 o 2) (eI h1 o 5).toInt.toNat s) (c3 : (eI g2 0 36).toInt = (eI g1 0 36).toInt + 1) (c4 : eA g2 0 37 = upd (eA g1 0 37) (eI g1 0 36).toInt.toNat p) (c5 : eA g2 0 38 = upd (eA g1 0 38) (eI g1 0 36).toInt.toNat v) (hc : CR s.toInt p.toInt v.toInt) : CC o d h g h2 g2 [] := by
  have l : (([] : List Int).length : Int) = 0 := rfl
  obtain ⟨x0, x1, x2, x3, x4, x5, x6, x7⟩ := x
  refine ⟨x0, x1, by omega, by omega, fun i hi => ?_, fun i hi => ?_, fun i q1 q2 => ?_, trivial⟩
  · rw [c2]
    unfold upd
    rw [if_neg (by omega)]
    exact x4 i hi
  · rw [c4, c5]
    unfold upd
    rw [if_neg (by omega), if_neg (by omega)]
    exact x5 i hi
  · rw [c2, c4, c5]
    unfold upd
    by_cases c : i = (eI h1 o 5).toInt.toNat
    · rw [if_pos c, if_pos (by omega), if_pos (by omega)]
      exact hc
    · rw [if_neg c, if_neg (by omega), if_neg (by omega)]
      exact x6 i q1 (by omega)
theorem CC_push {o d : Nat} {h g h1 g1 h2 : HS} {ps : List Int} {s : Int32} {p : Int} (x : CC o d h g h1 g1 ps) (c1 : (eI h2 o 5).toInt = (eI h1 o 5).toInt + 1) (c2 : eA h2 o 2 = upd (eA h1 o 2) (eI h1 o 5).toInt.toNat s) (hp : OPK s.toInt p) : CC o d h g h2 g1 (ps ++ [p]) := by
  obtain ⟨x0, x1, x2, x3, x4, x5, x6, x7⟩ := x
  have l : ((ps ++ [p]).length : Int) = (ps.length : Int) + 1 := by rw [List.length_append]; rfl
  refine ⟨x0, x1, by omega, by omega, fun i hi => ?_, x5, fun i q1 q2 => ?_, ?_⟩
  · rw [c2]
    unfold upd
    rw [if_neg (by omega)]
    exact x4 i hi
  · rw [c2]
    unfold upd
    rw [if_neg (by omega)]
    exact x6 i q1 (by omega)
  · rw [show ((eI h2 o 5).toInt - ((ps ++ [p]).length : Int)).toNat = ((eI h1 o 5).toInt - (ps.length : Int)).toNat by omega]
    refine PD_snoc ps _ (PD_congr ps _ (fun j h1 h2 => ?_) x7) ?_
    · rw [c2]
      unfold upd
      rw [if_neg (by omega)]
    · rw [c2]
      unfold upd
      rw [if_pos (by omega)]
      exact hp
theorem CC_flush {o d : Nat} {h g h1 g1 g2 : HS} {ps : List Int} (x : CC o d h g h1 g1 ps) (c1 : (eI g2 0 36).toInt = (eI g1 0 36).toInt + (ps.length : Int)) (c2 : ∀ i : Nat, (i : Int) < (eI g1 0 36).toInt → eA g2 0 37 i = eA g1 0 37 i ∧ eA g2 0 38 i = eA g1 0 38 i) (c3 : EMI (eA g2 0 37) (eI g1 0 36).toInt.toNat ps) : CC o d h g h1 g2 [] := by
  have l : (([] : List Int).length : Int) = 0 := rfl
  obtain ⟨x0, x1, x2, x3, x4, x5, x6, x7⟩ := x
  refine ⟨x0, x1, by omega, by omega, x4, fun i hi => ?_, fun i q1 q2 => ?_, trivial⟩
  · have a := c2 i (by omega)
    have b := x5 i hi
    exact ⟨a.1.trans b.1, a.2.trans b.2⟩
  · by_cases c : (i : Int) < (eI h1 o 5).toInt - (ps.length : Int)
    · have a := c2 (i + d) (by omega)
      rw [a.1, a.2]
      exact x6 i q1 c
    · have k := PD_EMI ps _ _ x7 c3 (i - ((eI h1 o 5).toInt - (ps.length : Int)).toNat) (by omega)
      rw [show ((eI h1 o 5).toInt - (ps.length : Int)).toNat + (i - ((eI h1 o 5).toInt - (ps.length : Int)).toNat) = i by omega, show (eI g1 0 36).toInt.toNat + (i - ((eI h1 o 5).toInt - (ps.length : Int)).toNat) = i + d by omega] at k
      exact Or.inr (Or.inr k)
def WW (F : Int) (g g' : HS) (ps : List Int) : Prop := (eI g' 0 25).toInt = (eI g 0 25).toInt + (ps.length : Int) ∧ (∀ i : Nat, (i : Int) < (eI g 0 25).toInt → eA g' 0 26 i = eA g 0 26 i ∧ eA g' 0 27 i = eA g 0 27 i) ∧ WD (eA g' 0 26) (eA g' 0 27) F (eI g' 0 25).toInt.toNat ps
def FF (g g' : HS) : Prop := eI g' 0 22 = eI g 0 22 ∧ eI g' 0 21 = eI g 0 21 ∧ (∀ i : Nat, (i : Int) < (eI g 0 22).toInt → eA g' 0 23 i = eA g 0 23 i) ∧ ∀ i : Nat, (i : Int) ≤ (eI g 0 22).toInt → eA g' 0 24 i = eA g 0 24 i
def WFr (g : HS) : Prop := 0 ≤ (eI g 0 22).toInt ∧ 0 ≤ (eI g 0 25).toInt ∧ ∀ i : Nat, (i : Int) < (eI g 0 25).toInt → (eA g 0 27 i).toInt ≤ (eI g 0 22).toInt
abbrev SPE : CL := [(0, 0, 15), (0, 0, 16), (0, 0, 17), (0, 0, 18), (0, 0, 19), (0, 0, 20), (0, 0, 21), (0, 0, 22), (1, 0, 23), (1, 0, 24), (0, 0, 25), (1, 0, 26), (1, 0, 27), (0, 0, 28), (0, 0, 36), (1, 0, 37), (1, 0, 38)]
def PRE (B : Int → Int) (L : Int) (P : Nat → Int) (o d : Nat) (op : Int) (h g : HS) : Prop := TT B L P h g ∧ eI h 5 0 = 0 ∧ eI g 0 19 = 0 ∧ (eI g 0 21).toInt = op ∧ (0 ≤ op ∧ op ≤ 8) ∧ WFr g ∧ (eI g 0 36).toInt = (eI h o 5).toInt + (d : Int) ∧ (0 ≤ (eI h o 5).toInt ∧ (eI h o 5).toInt ≤ at_ h) ∧ (eI g 0 30 = eI h 5 2 ∧ 0 ≤ (eI h 5 2).toInt)
abbrev SPR : CL := [(0, 0, 15), (0, 0, 16), (0, 0, 17), (0, 0, 18), (0, 0, 21), (0, 0, 22), (1, 0, 23), (1, 0, 24), (0, 0, 25), (1, 0, 26), (1, 0, 27), (0, 0, 28), (0, 0, 36), (1, 0, 37), (1, 0, 38)]
def RES (B : Int → Int) (L : Int) (P : Nat → Int) (o d : Nat) (h g h' g' : HS) (ps : List Int) : Prop := TT B L P h' g' ∧ eI h' 5 0 = 0 ∧ eI g' 0 19 = 0 ∧ FF g g' ∧ WW (eI g 0 22).toInt g g' ps ∧ CC o d h g h' g' ps ∧ (eI h' o 5).toInt - (eI h o 5).toInt ≤ at_ h' - at_ h ∧ (Fr SPR g g' ∧ eI h' 5 1 = eI h 5 1)
def BAD (r : Int32 × HS) (h' g : HS) : Prop := ¬ eI h' 5 0 = 0 ∧ ∃ (N : Nat) (g' : HS), f_X9_text_74 N g' = some r ∧ eI g' 0 19 = eI h' 5 0 ∧ eI g' 0 20 = eI h' 5 1 ∧ Fr SPE g g' ∧ 0 < (eI g' 0 19).toInt
theorem BAD_fr {S : CL} {r : Int32 × HS} {h' h2 g : HS} (b : BAD r h' g) (f : Fr S h' h2) (n0 : (0, 5, 0) ∉ S) (n1 : (0, 5, 1) ∉ S) : BAD r h2 g := by
  unfold BAD at *
  rw [f.1 5 0 n0, f.1 5 1 n1]
  exact b
theorem BAD_left {r : Int32 × HS} {h' g g1 : HS} (b : BAD r h' g1) (f : Fr SPR g g1) : BAD r h' g := by
  obtain ⟨x, N, g', a1, a2, a3, a4, a5⟩ := b
  exact ⟨x, N, g', a1, a2, a3, Fr_trans (Fr_mono (by decide) f) a4, a5⟩
theorem FF_refl (g : HS) : FF g g := ⟨rfl, rfl, fun _ _ => rfl, fun _ _ => rfl⟩
theorem FF_trans {a b c : HS} (x : FF a b) (y : FF b c) : FF a c := ⟨y.1.trans x.1, y.2.1.trans x.2.1, fun i hi => (y.2.2.1 i (by rw [x.1]; exact hi)).trans (x.2.2.1 i hi), fun i hi => (y.2.2.2 i (by rw [x.1]; exact hi)).trans (x.2.2.2 i hi)⟩
theorem WW_nil {F : Int} {g g' : HS} (a : eI g' 0 25 = eI g 0 25) (b : eA g' 0 26 = eA g 0 26) (c : eA g' 0 27 = eA g 0 27) : WW F g g' [] := ⟨by rw [a]; show _ = _ + (0 : Int); omega, fun i _ => by rw [b, c]; exact ⟨rfl, rfl⟩, trivial⟩
theorem WW0 {F : Int} {g g' : HS} (a : (eI g' 0 25).toInt = (eI g 0 25).toInt) (b : ∀ i : Nat, (i : Int) < (eI g 0 25).toInt → eA g' 0 26 i = eA g 0 26 i ∧ eA g' 0 27 i = eA g 0 27 i) : WW F g g' [] := ⟨by rw [a]; show _ = _ + (0 : Int); omega, b, trivial⟩
theorem bad_here {B : Int → Int} {L : Int} {P : Nat → Int} {h h' g g' : HS} {w : Int32} {N : Nat} {r : Int32 × HS} (t : TT B L P h g) (f0 : eI h 5 0 = 0) (g0 : eI g 0 19 = 0) (e : f_X2_fail h w = some h') (n : f_X9_errs g w = some g') (hw : 0 < w.toInt) (et : f_X9_text_74 N g' = some r) : BAD r h' g := by
  obtain ⟨rfl, rfl⟩ := TT_fail t f0 g0 e n
  exact ⟨fun q => by have q : w = 0 := q; rw [q] at hw; exact absurd hw (by decide), N, _, et, rfl, rfl, Fr_sI (by decide) (Fr_sI (by decide) (Fr_refl _ _)), hw⟩
theorem TT_lt {B : Int → Int} {L : Int} {P : Nat → Int} {h g : HS} (t : TT B L P h g) (k : ¬ kd h = 0) : at_ h < 300 := by
  obtain ⟨hL, ⟨-, -, t3, t4⟩, -, a1, a2, -⟩ := t
  unfold at_ at *
  unfold kd at k
  have i1 := t4 (eI h 4 4).toInt.toNat (by omega)
  have ne : ¬ (eI h 4 4).toInt = (eI h 4 3).toInt - 1 := fun q => k (i1.2.2.mpr (by omega))
  omega
theorem i32_ps (x : Int32) : x + 1 - 1 = x := by
  apply gi_eq
  have r := fb_rng x
  have z1 : (1 : Int32).toInt = 1 := rfl
  by_cases c : x.toInt < 2147483647
  · have a := fb_addI (x := x) (y := 1) (by omega) (by omega)
    rw [fb_subI (by omega) (by omega)]; omega
  · have e : x = 2147483647 := gi_eq (by have : (2147483647 : Int32).toInt = 2147483647 := rfl; omega)
    rw [e]; rfl
theorem TK_num {B : Int → Int} {L : Int} {P : Nat → Int} {h g : HS} (t : TT B L P h g) (k : kd h = 2) : (eI g 0 17).toInt = 2 ∧ NR (vl h) (eI g 0 18).toInt := by
  have tk := TT_tk t
  rcases tk with q | q | q | q | q
  · omega
  · exact ⟨q.2.1, q.2.2⟩
  · omega
  · omega
  · have := q.2; unfold SG at this; omega
theorem TK_not {B : Int → Int} {L : Int} {P : Nat → Int} {h g : HS} (t : TT B L P h g) (k : ¬ kd h = 2) : (kd h = 0 ∧ (eI g 0 17).toInt = 0) ∨ (16 ≤ kd h ∧ kd h ≤ 37 ∧ (eI g 0 17).toInt = 1 ∧ (eI g 0 18).toInt = kd h - 16) ∨ (kd h = 1 ∧ ((eI g 0 17).toInt = 4 ∨ ((eI g 0 17).toInt = 3 ∧ (eI g 0 18).toInt = 44))) ∨ ((eI g 0 17).toInt = 3 ∧ SG (kd h) (eI g 0 18).toInt) := by
  have tk := TT_tk t
  rcases tk with q | q | q | q | q
  · exact Or.inl q
  · exact absurd q.1 k
  · exact Or.inr (Or.inl q)
  · exact Or.inr (Or.inr (Or.inl q))
  · exact Or.inr (Or.inr (Or.inr q))
/-- a sign or a not that opens: the same on both sides -/
theorem opens_both {B : Int → Int} {L : Int} {P : Nat → Int} {o d : Nat} {h g : HS} {op f : Int32} {a b : Int32 × HS} (ho : ¬ o = 4) (x : PRE B L P o d op.toInt h g) (k : ¬ kd h = 0) (e : f_X2_opens h op = some a) (n : f_X9_opensSign g f = some b) : (a.1 = 0 ∧ f_X2_fail h 3 = some a.2 ∧ f_X9_errs g 3 = some b.2) ∨ (a.1 = 1 ∧ PRE B L P o d (op + 1).toInt a.2 b.2 ∧ at_ a.2 = at_ h + 1 ∧ (eI a.2 o 5 = eI h o 5 ∧ eA a.2 o 2 = eA h o 2 ∧ eI a.2 5 1 = eI h 5 1) ∧ eI b.2 0 22 = eI g 0 22 + 1 ∧ (eI b.2 0 22).toInt = (eI g 0 22).toInt + 1 ∧ eA b.2 0 23 = upd (eA g 0 23) (eI g 0 22).toInt.toNat f ∧ eI b.2 0 21 = eI g 0 21 + 1 ∧ Fr [(0, 0, 15), (0, 0, 16), (0, 0, 17), (0, 0, 18), (0, 0, 21), (0, 0, 22), (1, 0, 23)] g b.2) := by
  have z1 : (1 : Int32).toInt = 1 := rfl
  have z8 : (8 : Int32).toInt = 8 := rfl
  obtain ⟨t, f0, g0, hop, ⟨op0, op8⟩, ⟨w0, w1, w2⟩, b0, ⟨s0, s1⟩, lk1, lk2⟩ := x
  unfold f_X2_opens at e
  unfold f_X9_opensSign at n
  by_cases c : op < 8
  · right
    have dc := gi_of_lt c
    rw [if_pos c] at e
    rw [if_neg (fun q => by have := gi_of_eq q; omega)] at n
    obtain ⟨h2, e2, e⟩ := ob1_some e
    cases e
    obtain ⟨g2, n2, n⟩ := ob1_some n
    obtain ⟨g3, n3, n⟩ := ob1_some n
    cases n
    obtain ⟨⟨q1, q2⟩, rfl⟩ := mp_opensFrame n2
    have q1 : 0 ≤ (eI g 0 22).toInt := q1
    have q2 : (eI g 0 22).toInt < 40 := q2
    have fg : Fr [(0, 0, 21), (0, 0, 22), (1, 0, 23)] g (sI (sA (sI g 0 21 (eI g 0 21 + 1)) 0 23 (upd (eA (sI g 0 21 (eI g 0 21 + 1)) 0 23) (eI (sI g 0 21 (eI g 0 21 + 1)) 0 22).toInt.toNat f)) 0 22 (eI (sI g 0 21 (eI g 0 21 + 1)) 0 22 + 1)) := Fr_sI (by decide) (Fr_sA (by decide) (Fr_sI (by decide) (Fr_refl _ _)))
    obtain ⟨t2, eh, ea⟩ := TT_adv t k e2 fg (by decide) (by decide) (by decide) n3
    have fn := w_f_X9_next _ _ n3
    have a1 := fb_addI (x := eI g 0 22) (y := 1) (by omega) (by omega)
    have a2 := fb_addI (x := eI g 0 21) (y := 1) (by omega) (by omega)
    have a3 := fb_addI (x := op) (y := 1) (by omega) (by omega)
    have hh : eI h2 o 5 = eI h o 5 ∧ eA h2 o 2 = eA h o 2 ∧ eI h2 5 1 = eI h 5 1 := by
      subst eh
      refine ⟨?_, rfl, rfl⟩
      show (if o = 4 then (if (5 : Nat) = 4 then _ else _) else _) = _
      rw [if_neg ho]
      rfl
    have hf : eI h2 5 0 = eI h 5 0 ∧ eI h2 5 2 = eI h 5 2 := by subst eh; exact ⟨rfl, rfl⟩
    have i22 : eI g3 0 22 = eI g 0 22 + 1 := fn.1 0 22 (by decide)
    have i21 : eI g3 0 21 = eI g 0 21 + 1 := fn.1 0 21 (by decide)
    have i25 : eI g3 0 25 = eI g 0 25 := fn.1 0 25 (by decide)
    have i27 : eA g3 0 27 = eA g 0 27 := fn.2.1 0 27 (by decide)
    have i36 : eI g3 0 36 = eI g 0 36 := fn.1 0 36 (by decide)
    have i30 : eI g3 0 30 = eI g 0 30 := fn.1 0 30 (by decide)
    have i19 : eI g3 0 19 = eI g 0 19 := fn.1 0 19 (by decide)
    refine ⟨rfl, ⟨t2, hf.1.trans f0, i19.trans g0, ?_, ?_, ⟨?_, ?_, ?_⟩, ?_, ⟨?_, ?_⟩, ?_, ?_⟩, ea, hh, i22, ?_, fn.2.1 0 23 (by decide), i21, Fr_trans (Fr_mono (by decide) fg) (Fr_mono (by decide) fn)⟩
    · show (eI g3 0 21).toInt = _; rw [i21]; omega
    · omega
    · show 0 ≤ (eI g3 0 22).toInt; rw [i22]; omega
    · show 0 ≤ (eI g3 0 25).toInt; rw [i25]; omega
    · intro i hi
      have hi : (i : Int) < (eI g3 0 25).toInt := hi
      rw [i25] at hi
      have := w2 i hi
      show (eA g3 0 27 i).toInt ≤ (eI g3 0 22).toInt
      rw [i27, i22]; omega
    · show (eI g3 0 36).toInt = (eI h2 o 5).toInt + (d : Int)
      rw [i36, hh.1]; exact b0
    · show 0 ≤ (eI h2 o 5).toInt; rw [hh.1]; omega
    · show (eI h2 o 5).toInt ≤ at_ h2; rw [hh.1, ea]; omega
    · show eI g3 0 30 = eI h2 5 2; rw [i30, hf.2]; exact lk1
    · show 0 ≤ (eI h2 5 2).toInt; rw [hf.2]; exact lk2
    · show (eI g3 0 22).toInt = _; rw [i22]; omega
  · left
    have dc := gi_of_nlt c
    rw [if_neg c] at e
    rw [if_pos (gi_eq (by omega))] at n
    obtain ⟨h3, e3, e⟩ := ob1_some e
    cases e
    obtain ⟨g3, n3, n⟩ := ob1_some n
    cases n
    exact ⟨rfl, e3, n3⟩
/-- the steps of the frames that are over now -/
theorem mp_goes_else {g g1 : HS} {x : Int32} (e : f_X9_goesOn_116 g x = some g1) (h4 : ¬ x.toInt = 4) (h5 : ¬ x.toInt = 5) (h1 : ¬ x.toInt = 1) : f_X9_errs g 1 = some g1 := by
  have z1 : (1 : Int32).toInt = 1 := rfl
  have z4 : (4 : Int32).toInt = 4 := rfl
  have z5 : (5 : Int32).toInt = 5 := rfl
  unfold f_X9_goesOn_116 at e
  rw [if_neg (fun q => by have := gi_of_eq q; omega)] at e
  unfold f_X9_goesOn_181 at e
  rw [if_neg (fun q => by have := gi_of_eq q; omega), if_neg (fun q => by have := gi_of_eq q; omega)] at e
  unfold f_X9_goesOn_245 f_X9_goesOn_250 at e
  obtain ⟨g2, e2, e⟩ := ob1_some e
  cases e
  exact e2
theorem mp_goes_off {g g1 : HS} (e : f_X9_goesOn g = some g1) (n : ¬ ((eI g 0 17).toInt = 3 ∧ ((eI g 0 18).toInt = 43 ∨ (eI g 0 18).toInt = 45 ∨ (eI g 0 18).toInt = 42 ∨ (eI g 0 18).toInt = 47))) : f_X9_goesOn_65 g (eA g 0 23 ((eI g 0 22).toInt.toNat - 1)) = some g1 := by
  have z3 : (3 : Int32).toInt = 3 := rfl
  have y1 : (43 : Int32).toInt = 43 := rfl
  have y2 : (45 : Int32).toInt = 45 := rfl
  have y3 : (42 : Int32).toInt = 42 := rfl
  have y4 : (47 : Int32).toInt = 47 := rfl
  unfold f_X9_goesOn at e
  obtain ⟨r1, g2, e1, e⟩ := ob2_some e
  obtain ⟨-, q⟩ := mp_top e1
  cases q
  by_cases c : eI g 0 17 = 3
  · rw [if_pos c] at e
    have dc := gi_of_eq c
    rw [if_neg (fun q => by have := gi_of_eq q; omega), if_neg (fun q => by have := gi_of_eq q; omega), if_neg (fun q => by have := gi_of_eq q; omega), if_neg (fun q => by have := gi_of_eq q; omega)] at e
    exact e
  · rw [if_neg c] at e
    exact e
def lv (k : Int) : Int := if k = 9 then 3 else if k = 10 then 3 else if k = 11 then 4 else if k = 12 then 4 else if k = 26 then 0 else if k = 27 then 1 else -1
theorem lv_spec (k : Int) : (lv k = 3 ∧ (k = 9 ∨ k = 10)) ∨ (lv k = 4 ∧ (k = 11 ∨ k = 12)) ∨ (lv k = 0 ∧ k = 26) ∨ (lv k = 1 ∧ k = 27) ∨ (lv k = -1 ∧ ¬ k = 9 ∧ ¬ k = 10 ∧ ¬ k = 11 ∧ ¬ k = 12 ∧ ¬ k = 26 ∧ ¬ k = 27) := by
  unfold lv
  by_cases h1 : k = 9
  · rw [if_pos h1]; omega
  rw [if_neg h1]
  by_cases h2 : k = 10
  · rw [if_pos h2]; omega
  rw [if_neg h2]
  by_cases h3 : k = 11
  · rw [if_pos h3]; omega
  rw [if_neg h3]
  by_cases h4 : k = 12
  · rw [if_pos h4]; omega
  rw [if_neg h4]
  by_cases h5 : k = 26
  · rw [if_pos h5]; omega
  rw [if_neg h5]
  by_cases h6 : k = 27
  · rw [if_pos h6]; omega
  rw [if_neg h6]
  omega
def NOP (l k : Int) : Prop := (3 ≤ l → lv k < l) ∧ (l ≤ 1 → lv k < l ∨ 2 ≤ lv k)
theorem RES_flush {B : Int → Int} {L : Int} {P : Nat → Int} {o d m : Nat} {h g h2 g2 g3 : HS} {ps : List Int} {x1 : Int32} (R : RES B L P o d h g h2 g2 ps) (w : 0 ≤ (eI g 0 25).toInt) (rks : ∀ p ∈ ps, x1.toInt ≤ rnk p) (stp : STOP (eA g 0 26) (eA g 0 27) (eI g 0 22).toInt x1.toInt (eI g 0 25).toInt.toNat) (e : f_X9_works_0 m g2 x1 = some g3) : (eI g3 0 25).toInt = (eI g 0 25).toInt ∧ CC o d h g h2 g3 [] ∧ Fr [(0, 0, 25), (0, 0, 36), (1, 0, 37), (1, 0, 38)] g2 g3 := by
  obtain ⟨-, -, -, ⟨r4, -⟩, ⟨r7, r8, r8'⟩, r9, -⟩ := R
  have stp2 : STOP (eA g2 0 26) (eA g2 0 27) (eI g2 0 22).toInt x1.toInt (eI g 0 25).toInt.toNat := by
    rw [r4]
    rcases stp with q | ⟨k, q1, q2⟩
    · exact Or.inl q
    · have a := r8 k (by omega)
      refine Or.inr ⟨k, q1, ?_⟩
      rw [a.1, a.2]
      exact q2
  obtain ⟨m1, m2, m3, m4, m5⟩ := mp_works (F := (eI g2 0 22).toInt) ps _ g2 g3 (eI g 0 25).toInt.toNat e (by rw [r7]; omega) rfl (by rw [show (eI g 0 25).toInt.toNat + ps.length = (eI g2 0 25).toInt.toNat by omega, r4]; exact r8') rks stp2
  exact ⟨by omega, CC_flush r9 m2 m3 m4, m5⟩
theorem cp_kind_same {h : HS} {z : Int32 × HS} (e : f_X7_kind h = some z) : z.2 = h := by
  unfold f_X7_kind f_X7_kind_35 f_X7_kind_36 at e
  by_cases c1 : eI h 4 3 ≤ eI h 4 4
  · rw [if_pos c1] at e; cases e; rfl
  · rw [if_neg c1] at e
    by_cases c2 : (301 : Int32) ≤ eI h 4 4
    · rw [if_pos c2] at e; cases e; rfl
    · rw [if_neg c2] at e
      obtain ⟨-, e⟩ := ob_if e
      cases e; rfl
theorem cp_fail_no {h h' : HS} {w : Int32} (e : f_X2_fail h w = some h') (n : ¬ eI h 5 0 = 0) : h' = h := by
  unfold f_X2_fail f_X2_fail_20 at e
  rw [if_neg n] at e
  cases e; rfl
theorem STOP_new {g g1 : HS} {x : Int} (wf : WFr g) (i25 : eI g1 0 25 = eI g 0 25) (i26 : ∀ i : Nat, (i : Int) < (eI g 0 25).toInt → eA g1 0 26 i = eA g 0 26 i ∧ eA g1 0 27 i = eA g 0 27 i) (j : (eI g1 0 22).toInt = (eI g 0 22).toInt + 1) : STOP (eA g1 0 26) (eA g1 0 27) (eI g1 0 22).toInt x (eI g1 0 25).toInt.toNat := by
  rw [i25, j]
  by_cases c : (eI g 0 25).toInt.toNat = 0
  · exact Or.inl c
  · refine Or.inr ⟨(eI g 0 25).toInt.toNat - 1, by omega, Or.inl ?_⟩
    have w1 := wf.2.1
    rw [(i26 ((eI g 0 25).toInt.toNat - 1) (by omega)).2]
    have := wf.2.2 ((eI g 0 25).toInt.toNat - 1) (by omega)
    omega
def rl (l : Int) : Int := if l = 0 then 1 else if l = 1 then 2 else if l = 2 then 3 else l
theorem rl_spec (l : Int) : (l = 0 ∧ rl l = 1) ∨ (l = 1 ∧ rl l = 2) ∨ (l = 2 ∧ rl l = 3) ∨ (¬ l = 0 ∧ ¬ l = 1 ∧ ¬ l = 2 ∧ rl l = l) := by
  unfold rl
  by_cases h1 : l = 0
  · rw [if_pos h1]; omega
  rw [if_neg h1]
  by_cases h2 : l = 1
  · rw [if_pos h2]; omega
  rw [if_neg h2]
  by_cases h3 : l = 2
  · rw [if_pos h3]; omega
  rw [if_neg h3]
  omega
theorem cp_levelOf {x r : Int32} (e : f_X2_levelOf x = some r) : r.toInt = lv x.toInt := by
  have key : ∀ n : Fin 19, f_X2_levelOf (Int32.ofInt ((n.val : Int) + 9)) = some (Int32.ofInt (lv ((n.val : Int) + 9))) := by decide +kernel
  have key2 : ∀ n : Fin 19, (Int32.ofInt (lv ((n.val : Int) + 9))).toInt = lv ((n.val : Int) + 9) := by decide +kernel
  by_cases h : 9 ≤ x.toInt ∧ x.toInt < 28
  · obtain ⟨m, hm⟩ := Int.eq_ofNat_of_zero_le (show 0 ≤ x.toInt - 9 by omega)
    have k := key ⟨m, by omega⟩
    have ex : x = Int32.ofInt ((m : Int) + 9) := by rw [← Int32.ofInt_toInt x]; congr 1; omega
    have k2 : f_X2_levelOf x = some (Int32.ofInt (lv ((m : Int) + 9))) := by rw [ex]; exact k
    rw [k2] at e
    cases e
    have hx : x.toInt = (m : Int) + 9 := by omega
    rw [hx]
    exact key2 ⟨m, by omega⟩
  · have ne : ∀ (c : Int32), 9 ≤ c.toInt → c.toInt < 28 → ¬ x = c := fun c h1 h2 q => h (by rw [q]; exact ⟨h1, h2⟩)
    have sp := lv_spec x.toInt
    unfold f_X2_levelOf at e
    rw [if_neg (ne 9 (by decide) (by decide)), if_neg (ne 10 (by decide) (by decide)), if_neg (ne 11 (by decide) (by decide)), if_neg (ne 12 (by decide) (by decide)), if_neg (ne 13 (by decide) (by decide)), if_neg (ne 14 (by decide) (by decide)), if_neg (ne 15 (by decide) (by decide)), if_neg (ne 16 (by decide) (by decide)), if_neg (ne 17 (by decide) (by decide)), if_neg (ne 18 (by decide) (by decide)), if_neg (ne 19 (by decide) (by decide)), if_neg (ne 20 (by decide) (by decide)), if_neg (ne 21 (by decide) (by decide)), if_neg (ne 22 (by decide) (by decide)), if_neg (ne 23 (by decide) (by decide)), if_neg (ne 24 (by decide) (by decide)), if_neg (ne 25 (by decide) (by decide)), if_neg (ne 26 (by decide) (by decide)), if_neg (ne 27 (by decide) (by decide))] at e
    cases e
    have : (-1 : Int32).toInt = -1 := rfl
    omega
/-- an operator stands here: the reference waits for what stands behind it -/
theorem mp_op {B : Int → Int} {L : Int} {P : Nat → Int} {h g : HS} {N : Nat} {r : Int32 × HS} {l : Int} (t : TT B L P h g) (g0 : eI g 0 19 = 0) (et : f_X9_text_74 N g = some r) (hl : lv (kd h) = l) (hs : (0 ≤ l ∧ l ≤ 1 ∧ (eI g 0 28).toInt = 3) ∨ (3 ≤ l ∧ (eI g 0 28).toInt = 2)) : ∃ (N' : Nat) (g5 : HS) (p st : Int32), f_X9_waitsFor g p = some g5 ∧ f_X9_text_74 N' (sI g5 0 28 st) = some r ∧ OPK (20000 + kd h) p.toInt ∧ rnk p.toInt = rl l ∧ ((l ≤ 1 ∧ st.toInt = 0) ∨ (3 ≤ l ∧ st.toInt = 1)) := by
  have z3 : (3 : Int32).toInt = 3 := rfl
  have z1 : (1 : Int32).toInt = 1 := rfl
  have z10 : (10 : Int32).toInt = 10 := rfl
  have z11 : (11 : Int32).toInt = 11 := rfl
  have y1 : (43 : Int32).toInt = 43 := rfl
  have y2 : (45 : Int32).toInt = 45 := rfl
  have y3 : (42 : Int32).toInt = 42 := rfl
  have y4 : (47 : Int32).toInt = 47 := rfl
  have tk := TT_tk t
  have sp := lv_spec (kd h)
  rcases hs with ⟨l0, l1, s⟩ | ⟨l3, s⟩
  · obtain ⟨N1, g1, b1, et⟩ := (mp_turn et g0).2.2.2.1 s
    have so : (eI g 0 17).toInt = 1 ∧ (eI g 0 18).toInt = kd h - 16 := by
      rcases tk with u | u | u | u | u
      · omega
      · omega
      · omega
      · omega
      · have := u.2; unfold SG at this; omega
    have go : ∀ y : HS, f_X9_asksOn_18 g = some y → ∃ (g5 : HS) (p : Int32), f_X9_waitsFor g p = some g5 ∧ y = sI g5 0 28 0 ∧ OPK (20000 + kd h) p.toInt ∧ rnk p.toInt = rl l := by
      intro y ey
      unfold f_X9_asksOn_18 at ey
      obtain ⟨r2, g2, b2, ey⟩ := ob2_some ey
      obtain ⟨w1, w2⟩ := mp_isWord b2
      obtain rfl : g = g2 := w1.symm
      have w2 : (r2 = 0 ∧ ¬ ((eI g 0 17).toInt = 1 ∧ (eI g 0 18).toInt = 10)) ∨ (r2 = 1 ∧ (eI g 0 17).toInt = 1 ∧ (eI g 0 18).toInt = 10) := w2
      unfold f_X9_asksOn_37 f_X9_asksOn_77 at ey
      rcases w2 with ⟨rfl, w2⟩ | ⟨rfl, w2⟩
      · rw [if_pos rfl] at ey
        obtain ⟨g5, b5, ey⟩ := ob1_some ey
        cases ey
        have kk : kd h = 27 := by omega
        have ll : l = 1 := by omega
        refine ⟨g5, 406, b5, rfl, ?_, ?_⟩
        · rw [kk]; unfold OPK OPR; decide
        · rw [ll]; rfl
      · rw [if_neg (by decide)] at ey
        obtain ⟨g5, b5, ey⟩ := ob1_some ey
        cases ey
        have kk : kd h = 26 := by omega
        have ll : l = 0 := by omega
        refine ⟨g5, 407, b5, rfl, ?_, ?_⟩
        · rw [kk]; unfold OPK OPR; decide
        · rw [ll]; rfl
    have b18 : f_X9_asksOn_18 g = some g1 := by
      unfold f_X9_asksOn at b1
      obtain ⟨r2, g2, b2, b1⟩ := ob2_some b1
      obtain ⟨w1, w2⟩ := mp_isWord b2
      obtain rfl : g = g2 := w1.symm
      have w2 : (r2 = 0 ∧ ¬ ((eI g 0 17).toInt = 1 ∧ (eI g 0 18).toInt = 10)) ∨ (r2 = 1 ∧ (eI g 0 17).toInt = 1 ∧ (eI g 0 18).toInt = 10) := w2
      rcases w2 with ⟨rfl, w2⟩ | ⟨rfl, w2⟩
      · rw [if_pos rfl] at b1
        obtain ⟨r4, g4, b4, b1⟩ := ob2_some b1
        obtain ⟨w3, w4⟩ := mp_isWord b4
        obtain rfl : g = g4 := w3.symm
        have w4 : (r4 = 0 ∧ ¬ ((eI g 0 17).toInt = 1 ∧ (eI g 0 18).toInt = 11)) ∨ (r4 = 1 ∧ (eI g 0 17).toInt = 1 ∧ (eI g 0 18).toInt = 11) := w4
        rcases w4 with ⟨rfl, w4⟩ | ⟨rfl, w4⟩
        · omega
        · rw [if_neg (by decide)] at b1
          exact b1
      · rw [if_neg (by decide)] at b1
        exact b1
    obtain ⟨g5, p, k1, k2, k3, k4⟩ := go g1 b18
    subst k2
    exact ⟨N1, g5, p, 0, k1, et, k3, k4, Or.inl ⟨l1, rfl⟩⟩
  · obtain ⟨N1, g1, b1, et⟩ := (mp_turn et g0).2.2.1 s
    have so : (eI g 0 17).toInt = 3 ∧ SG (kd h) (eI g 0 18).toInt := by
      rcases tk with u | u | u | u | u
      · omega
      · omega
      · omega
      · omega
      · exact u
    have sg := so.2
    unfold SG at sg
    unfold f_X9_goesOn at b1
    obtain ⟨r2, g2, b2, b1⟩ := ob2_some b1
    obtain ⟨-, q⟩ := mp_top b2
    cases q
    rw [if_pos (gi_eq (by omega))] at b1
    have b49 : f_X9_goesOn_49 g = some g1 := by
      by_cases c1 : eI g 0 18 = 43
      · rw [if_pos c1] at b1; exact b1
      · rw [if_neg c1] at b1
        have d1 := gi_of_ne c1
        by_cases c2 : eI g 0 18 = 45
        · rw [if_pos c2] at b1; exact b1
        · rw [if_neg c2] at b1
          have d2 := gi_of_ne c2
          by_cases c3 : eI g 0 18 = 42
          · rw [if_pos c3] at b1; exact b1
          · rw [if_neg c3] at b1
            have d3 := gi_of_ne c3
            rw [if_pos (gi_eq (by omega))] at b1
            exact b1
    unfold f_X9_goesOn_49 f_X9_goesOn_250 at b49
    obtain ⟨g5, b5, b49⟩ := ob1_some b49
    cases b49
    refine ⟨N1, g5, eI g 0 18, 1, b5, et, ?_, ?_, Or.inr ⟨l3, rfl⟩⟩
    · exact OPK_of (SG_OPR so.2 (by omega)) (by omega)
    · have rs := rl_spec l
      by_cases c : l = 3
      · have : (eI g 0 18).toInt = 43 ∨ (eI g 0 18).toInt = 45 := by omega
        rcases this with q | q
        · rw [q, c]; rfl
        · rw [q, c]; rfl
      · have c4 : l = 4 := by omega
        have : (eI g 0 18).toInt = 42 ∨ (eI g 0 18).toInt = 47 := by omega
        rcases this with q | q
        · rw [q, c4]; rfl
        · rw [q, c4]; rfl
theorem RES_st {B : Int → Int} {L : Int} {P : Nat → Int} {o d : Nat} {h g h' g1 : HS} {ps : List Int} {v : Int32} (R : RES B L P o d h g h' g1 ps) : RES B L P o d h g h' (sI g1 0 28 v) ps := by
  have f : Fr [(0, 0, 28)] g1 (sI g1 0 28 v) := Fr_sI (by decide) (Fr_refl _ _)
  obtain ⟨x1, x2, x3, x4, x5, x6, x7, x8⟩ := R
  exact ⟨TT_g x1 f (by decide) (by decide) (by decide) (by decide) (by decide) (by decide), x2, x3, x4, x5, x6, x7, Fr_trans x8.1 (Fr_mono (by decide) f), x8.2⟩
theorem mp_isAsking {x r : Int32} (e : f_X9_isAsking x = some r) : (r = 0 ∧ ¬ (x.toInt = 60 ∨ x.toInt = 62 ∨ x.toInt = 61 ∨ x.toInt = 35 ∨ x.toInt = 300 ∨ x.toInt = 301)) ∨ (r = 1 ∧ (x.toInt = 60 ∨ x.toInt = 62 ∨ x.toInt = 61 ∨ x.toInt = 35 ∨ x.toInt = 300 ∨ x.toInt = 301)) := by
  have z1 : (60 : Int32).toInt = 60 := rfl
  have z2 : (62 : Int32).toInt = 62 := rfl
  have z3 : (61 : Int32).toInt = 61 := rfl
  have z4 : (35 : Int32).toInt = 35 := rfl
  have z5 : (300 : Int32).toInt = 300 := rfl
  have z6 : (301 : Int32).toInt = 301 := rfl
  unfold f_X9_isAsking f_X9_isAsking_38 f_X9_isAsking_43 at e
  by_cases c1 : x = 60
  · rw [if_pos c1] at e; cases e; exact Or.inr ⟨rfl, by have := gi_of_eq c1; omega⟩
  rw [if_neg c1] at e
  by_cases c2 : x = 62
  · rw [if_pos c2] at e; cases e; exact Or.inr ⟨rfl, by have := gi_of_eq c2; omega⟩
  rw [if_neg c2] at e
  by_cases c3 : x = 61
  · rw [if_pos c3] at e; cases e; exact Or.inr ⟨rfl, by have := gi_of_eq c3; omega⟩
  rw [if_neg c3] at e
  by_cases c4 : x = 35
  · rw [if_pos c4] at e; cases e; exact Or.inr ⟨rfl, by have := gi_of_eq c4; omega⟩
  rw [if_neg c4] at e
  by_cases c5 : x = 300
  · rw [if_pos c5] at e; cases e; exact Or.inr ⟨rfl, by have := gi_of_eq c5; omega⟩
  rw [if_neg c5] at e
  by_cases c6 : x = 301
  · rw [if_pos c6] at e; cases e; exact Or.inr ⟨rfl, by have := gi_of_eq c6; omega⟩
  rw [if_neg c6] at e
  cases e
  exact Or.inl ⟨rfl, by have := gi_of_ne c1; have := gi_of_ne c2; have := gi_of_ne c3; have := gi_of_ne c4; have := gi_of_ne c5; have := gi_of_ne c6; omega⟩
