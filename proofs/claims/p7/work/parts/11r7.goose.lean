/-! a goose is told -/
def tv (w f : Int32) (k : Nat) : Int32 := if k = 0 then w else if k = 1 then f else if k = 4 then 0 else if k = 8 then 0 else -1
theorem mp_tells {g g' : HS} {a w f p : Int32} {b c : Nat} (e : f_X9_tellsGoose g a p w f = some g') (ha : a.toInt = (b : Int)) (hb : b < 1990) (hp : p.toInt = (c : Int)) (hc : c < 10) : (∀ k : Nat, k < 9 → gc (eA g' 0 0) b c k = tv w f k) ∧ (∀ i : Nat, (i < b + 9 * c ∨ b + 9 * c + 9 ≤ i) → eA g' 0 0 i = eA g 0 0 i) ∧ Fr [(1, 0, 0)] g g' := by
  have y0 : (0 : Int32).toInt = 0 := rfl
  have y1 : (1 : Int32).toInt = 1 := rfl
  have y2 : (2 : Int32).toInt = 2 := rfl
  have y3 : (3 : Int32).toInt = 3 := rfl
  have y4 : (4 : Int32).toInt = 4 := rfl
  have y5 : (5 : Int32).toInt = 5 := rfl
  have y6 : (6 : Int32).toInt = 6 := rfl
  have y7 : (7 : Int32).toInt = 7 := rfl
  have y8 : (8 : Int32).toInt = 8 := rfl
  have fr := w_f_X9_tellsGoose _ _ _ _ _ _ e
  unfold f_X9_tellsGoose at e
  have m1 : (9 * p).toInt = 9 * p.toInt := fb_mulJ rfl (by omega) (by omega)
  have m2 := fb_addI (x := a) (y := 9 * p) (by omega) (by omega)
  generalize a + 9 * p = E at e m2
  have I : ∀ (v : Int32) (n : Nat), v.toInt = (n : Int) → n ≤ 8 → (E + v).toNatClampNeg = b + (9 * c + n) := by
    intro v n hv hn
    have m3 := fb_addI (x := E) (y := v) (by omega) (by omega)
    show (E + v).toInt.toNat = _
    omega
  obtain ⟨-, e⟩ := ob_if e
  obtain ⟨-, e⟩ := ob_if e
  obtain ⟨-, e⟩ := ob_if e
  obtain ⟨-, e⟩ := ob_if e
  obtain ⟨-, e⟩ := ob_if e
  obtain ⟨-, e⟩ := ob_if e
  obtain ⟨-, e⟩ := ob_if e
  obtain ⟨-, e⟩ := ob_if e
  obtain ⟨-, e⟩ := ob_if e
  rw [I 0 0 rfl (by decide), I 1 1 rfl (by decide), I 2 2 rfl (by decide), I 3 3 rfl (by decide), I 4 4 rfl (by decide), I 5 5 rfl (by decide), I 6 6 rfl (by decide), I 7 7 rfl (by decide), I 8 8 rfl (by decide)] at e
  have eg : eA g' 0 0 = upd (upd (upd (upd (upd (upd (upd (upd (upd (eA g 0 0) (b + (9 * c + 0)) w) (b + (9 * c + 1)) f) (b + (9 * c + 2)) (-1)) (b + (9 * c + 3)) (-1)) (b + (9 * c + 4)) 0) (b + (9 * c + 5)) (-1)) (b + (9 * c + 6)) (-1)) (b + (9 * c + 7)) (-1)) (b + (9 * c + 8)) 0 := by
    rw [← Option.some.inj e]
    rfl
  refine ⟨fun k hk => ?_, fun i hi => ?_, Fr_mono (by decide) fr⟩
  · rw [eg]
    match k, hk with
    | 0, _ => simp (disch := omega) only [gc_upd_ne, gc_upd_eq]; rfl
    | 1, _ => simp (disch := omega) only [gc_upd_ne, gc_upd_eq]; rfl
    | 2, _ => simp (disch := omega) only [gc_upd_ne, gc_upd_eq]; rfl
    | 3, _ => simp (disch := omega) only [gc_upd_ne, gc_upd_eq]; rfl
    | 4, _ => simp (disch := omega) only [gc_upd_ne, gc_upd_eq]; rfl
    | 5, _ => simp (disch := omega) only [gc_upd_ne, gc_upd_eq]; rfl
    | 6, _ => simp (disch := omega) only [gc_upd_ne, gc_upd_eq]; rfl
    | 7, _ => simp (disch := omega) only [gc_upd_ne, gc_upd_eq]; rfl
    | 8, _ => simp (disch := omega) only [gc_upd_ne, gc_upd_eq]; rfl
  · rw [eg, ud_ne (by omega), ud_ne (by omega), ud_ne (by omega), ud_ne (by omega), ud_ne (by omega), ud_ne (by omega), ud_ne (by omega), ud_ne (by omega), ud_ne (by omega)]
theorem mp_goose49 {p1 p2 : Int32} {c N : Nat} (hc : c < 10) (hN : N ≤ 20) : ∀ (n : Nat) (g : HS) (x : Int32) (r : Int32 × HS), f_X9_goose_49 n g p1 p2 x = some r → 0 ≤ x.toInt → (eA g 0 0 1).toInt = (c : Int) → (eA g 0 0 5).toInt = (N : Int) → r.1 = eA g 0 0 1 ∧ eA r.2 0 0 1 = eA g 0 0 1 + 1 ∧ (∀ j k : Nat, x.toInt ≤ (j : Int) → j < N → k < 9 → gc (eA r.2 0 0) (130 + 93 * j) c k = tv p1 p2 k) ∧ (∀ i : Nat, ¬ i = 1 → (∀ j : Nat, x.toInt ≤ (j : Int) → j < N → (i < 130 + 93 * j + 9 * c ∨ 130 + 93 * j + 9 * c + 9 ≤ i)) → eA r.2 0 0 i = eA g 0 0 i) := by
  have y1 : (1 : Int32).toInt = 1 := rfl
  have y93 : (93 : Int32).toInt = 93 := rfl
  have y130 : (130 : Int32).toInt = 130 := rfl
  intro n
  induction n with
  | zero => intro g x r e; cases e
  | succ n ih =>
    intro g x r e hx h1 h5
    rw [f_X9_goose_49_s] at e
    by_cases cx : eA g 0 0 5 ≤ x
    · rw [if_pos cx] at e
      have d := gi_of_le cx
      cases e
      refine ⟨?_, ?_, fun j k q1 q2 _ => by omega, fun i hi _ => ?_⟩
      · show upd (eA g 0 0) 1 (eA g 0 0 1 + 1) 1 - 1 = _
        rw [ud_eq, i32_ps]
      · show upd (eA g 0 0) 1 (eA g 0 0 1 + 1) 1 = _
        exact ud_eq
      · show upd (eA g 0 0) 1 (eA g 0 0 1 + 1) i = _
        exact ud_ne hi
    · rw [if_neg cx] at e
      have d := gi_of_nle cx
      have m1 : (93 * x).toInt = 93 * x.toInt := fb_mulJ rfl (by omega) (by omega)
      have m2 := fb_addI (x := 130) (y := 93 * x) (by omega) (by omega)
      have m3 := fb_addI (x := x) (y := 1) (by omega) (by omega)
      obtain ⟨g8, a8, e⟩ := ob1_some e
      obtain ⟨t1, t2, t3⟩ := mp_tells (b := 130 + 93 * x.toInt.toNat) (c := c) a8 (by omega) (by omega) h1 hc
      obtain ⟨k1, k2, k3, k4⟩ := ih g8 (x + 1) r e (by omega) (by rw [t2 1 (by omega)]; exact h1) (by rw [t2 5 (by omega)]; exact h5)
      rw [t2 1 (by omega)] at k1 k2
      refine ⟨k1, k2, fun j k q1 q2 q3 => ?_, fun i hi q => ?_⟩
      · by_cases cj : (j : Int) = x.toInt
        · rw [show x.toInt.toNat = j by omega] at t1
          rw [← t1 k q3]
          exact k4 _ (by omega) (fun j' q1' q2' => by omega)
        · exact k3 j k (by omega) q2 q3
      · rw [k4 i hi (fun j q1' q2' => q j (by omega) q2')]
        have := q x.toInt.toNat (by omega) (by omega)
        exact t2 i (by omega)
theorem cp_addGoose {h : HS} {p1 p2 : Int32} {z : Int32 × HS} {c : Nat} (e : f_X4_addGoose h p1 p2 = some z) (hc : (eI h 1 3).toInt = (c : Int)) (c10 : c < 10) : z.1 = eI h 1 3 ∧ eI z.2 1 3 = eI h 1 3 + 1 ∧ (∀ k : Nat, k < 9 → eA z.2 1 0 (9 * c + k) = tv p1 p2 k) ∧ (∀ i : Nat, i < 9 * c → eA z.2 1 0 i = eA h 1 0 i) ∧ Fr [(1, 1, 0), (0, 1, 3)] h z.2 := by
  have y1 : (1 : Int32).toInt = 1 := rfl
  have y10 : (10 : Int32).toInt = 10 := rfl
  have a := fb_addI (x := eI h 1 3) (y := 1) (by omega) (by omega)
  have fr := w_f_X4_addGoose _ _ _ _ e
  unfold f_X4_addGoose at e
  rw [if_pos (gi_lt (by omega))] at e
  have L : ∀ hh : HS, eI hh 1 3 = eI h 1 3 + 1 → (c : Int) < (eI hh 1 3).toInt ∧ (eI hh 1 3).toInt ≤ 10 := fun hh q => by rw [q]; omega
  obtain ⟨h2, a2, e⟩ := ob1_some e
  have E2 := cp_setGoose (q := c) (k := 0) a2 hc rfl (L _ rfl).1 (L _ rfl).2 (by decide)
  subst E2
  obtain ⟨h3, a3, e⟩ := ob1_some e
  have E3 := cp_setGoose (q := c) (k := 1) a3 hc rfl (L _ rfl).1 (L _ rfl).2 (by decide)
  subst E3
  obtain ⟨h4, a4, e⟩ := ob1_some e
  have E4 := cp_setGoose (q := c) (k := 2) a4 hc rfl (L _ rfl).1 (L _ rfl).2 (by decide)
  subst E4
  obtain ⟨h5, a5, e⟩ := ob1_some e
  have E5 := cp_setGoose (q := c) (k := 3) a5 hc rfl (L _ rfl).1 (L _ rfl).2 (by decide)
  subst E5
  obtain ⟨h6, a6, e⟩ := ob1_some e
  have E6 := cp_setGoose (q := c) (k := 4) a6 hc rfl (L _ rfl).1 (L _ rfl).2 (by decide)
  subst E6
  obtain ⟨h7, a7, e⟩ := ob1_some e
  have E7 := cp_setGoose (q := c) (k := 5) a7 hc rfl (L _ rfl).1 (L _ rfl).2 (by decide)
  subst E7
  obtain ⟨h8, a8, e⟩ := ob1_some e
  have E8 := cp_setGoose (q := c) (k := 6) a8 hc rfl (L _ rfl).1 (L _ rfl).2 (by decide)
  subst E8
  obtain ⟨h9, a9, e⟩ := ob1_some e
  have E9 := cp_setGoose (q := c) (k := 7) a9 hc rfl (L _ rfl).1 (L _ rfl).2 (by decide)
  subst E9
  obtain ⟨h10, a10, e⟩ := ob1_some e
  have E10 := cp_setGoose (q := c) (k := 8) a10 hc rfl (L _ rfl).1 (L _ rfl).2 (by decide)
  subst E10
  cases e
  refine ⟨rfl, rfl, fun k hk => ?_, fun i hi => ?_, Fr_mono (by decide) fr⟩
  · show upd (upd (upd (upd (upd (upd (upd (upd (upd (eA h 1 0) (9 * c + 0) p1) (9 * c + 1) p2) (9 * c + 2) (-1)) (9 * c + 3) (-1)) (9 * c + 4) 0) (9 * c + 5) (-1)) (9 * c + 6) (-1)) (9 * c + 7) (-1)) (9 * c + 8) 0 (9 * c + k) = tv p1 p2 k
    match k, hk with
    | 0, _ => simp (disch := omega) only [ud_ne, ud_eq]; rfl
    | 1, _ => simp (disch := omega) only [ud_ne, ud_eq]; rfl
    | 2, _ => simp (disch := omega) only [ud_ne, ud_eq]; rfl
    | 3, _ => simp (disch := omega) only [ud_ne, ud_eq]; rfl
    | 4, _ => simp (disch := omega) only [ud_ne, ud_eq]; rfl
    | 5, _ => simp (disch := omega) only [ud_ne, ud_eq]; rfl
    | 6, _ => simp (disch := omega) only [ud_ne, ud_eq]; rfl
    | 7, _ => simp (disch := omega) only [ud_ne, ud_eq]; rfl
    | 8, _ => simp (disch := omega) only [ud_ne, ud_eq]; rfl
  · show upd (upd (upd (upd (upd (upd (upd (upd (upd (eA h 1 0) (9 * c + 0) p1) (9 * c + 1) p2) (9 * c + 2) (-1)) (9 * c + 3) (-1)) (9 * c + 4) 0) (9 * c + 5) (-1)) (9 * c + 6) (-1)) (9 * c + 7) (-1)) (9 * c + 8) 0 i = eA h 1 0 i
    simp (disch := omega) only [ud_ne]
theorem tv_GR {A : Nat → Int32} {b c : Nat} {m : Int} {w f : Int32} (h : ∀ k : Nat, k < 9 → gc A b c k = tv w f k) (hw : 0 ≤ w.toInt ∧ w.toInt ≤ 20) (hf : 0 ≤ f.toInt ∧ f.toInt ≤ 99) : GR A b c m := by
  have t0 : (0 : Int32).toInt = 0 := rfl
  have tm : (-1 : Int32).toInt = -1 := rfl
  have v0 : gc A b c 0 = w := h 0 (by decide)
  have v1 : gc A b c 1 = f := h 1 (by decide)
  have v2 : gc A b c 2 = -1 := h 2 (by decide)
  have v3 : gc A b c 3 = -1 := h 3 (by decide)
  have v4 : gc A b c 4 = 0 := h 4 (by decide)
  have v5 : gc A b c 5 = -1 := h 5 (by decide)
  have v6 : gc A b c 6 = -1 := h 6 (by decide)
  have v7 : gc A b c 7 = -1 := h 7 (by decide)
  have v8 : gc A b c 8 = 0 := h 8 (by decide)
  unfold GR
  rw [v0, v1, v2, v3, v4, v5, v6, v7, v8]
  omega
theorem j_goose {h g : HS} {p1 p2 : Int32} {z w : Int32 × HS} (sr : SRel h 1 (eA g 0 0)) (rg : RG (eA g 0 0)) (e1 : f_X8_goose h p1 p2 = some z) (e2 : f_X9_goose g p1 p2 = some w) : DONE h g z w := by
  have y0 : (0 : Int32).toInt = 0 := rfl
  have y1 : (1 : Int32).toInt = 1 := rfl
  have y10 : (10 : Int32).toInt = 10 := rfl
  have y20 : (20 : Int32).toInt = 20 := rfl
  have y99 : (99 : Int32).toInt = 99 := rfl
  have sc := sr.1
  have s3 : eI h 1 3 = eA g 0 0 1 := sc.1
  have rn := rg.1
  unfold RN at rn
  unfold f_X8_goose f_X8_goose_21 at e1
  unfold f_X9_goose f_X9_goose_31 at e2
  have no : z = (-1, h) → w = (-1, g) → DONE h g z w := fun a b => by rw [a, b]; exact DONE_no sr rg
  obtain ⟨r1, b1, e2⟩ := ob1_some e2
  rcases mx_in b1 with ⟨k, q⟩ | ⟨k, q⟩
  · rw [if_pos k] at e2
    refine no ?_ (Option.some.inj e2).symm
    by_cases c1 : p1 < 1
    · rw [if_pos c1] at e1; exact (Option.some.inj e1).symm
    · rw [if_neg c1] at e1
      have d1 := gi_of_nlt c1
      rw [if_pos (gi_lt (by omega))] at e1
      exact (Option.some.inj e1).symm
  · rw [if_neg (by rw [k]; decide)] at e2
    rw [if_neg (gi_nlt (by omega)), if_neg (gi_nlt (by omega))] at e1
    obtain ⟨r3, b3, e2⟩ := ob1_some e2
    rcases mx_in b3 with ⟨k3, q3⟩ | ⟨k3, q3⟩
    · rw [if_pos k3] at e2
      refine no ?_ (Option.some.inj e2).symm
      by_cases c1 : p2 < 0
      · rw [if_pos c1] at e1; exact (Option.some.inj e1).symm
      · rw [if_neg c1] at e1
        have d1 := gi_of_nlt c1
        rw [if_neg (gi_nle (by omega))] at e1
        exact (Option.some.inj e1).symm
    · rw [if_neg (by rw [k3]; decide)] at e2
      rw [if_neg (gi_nlt (by omega)), if_pos (gi_le (by omega))] at e1
      obtain ⟨r5, h5, a5, e1⟩ := ob2_some e1
      cases e1
      by_cases c10 : eA g 0 0 1 = 10
      · rw [if_pos c10] at e2
        have d := gi_of_eq c10
        unfold f_X4_addGoose at a5
        rw [s3, if_neg (gi_nlt (by omega))] at a5
        exact no (Option.some.inj a5).symm (Option.some.inj e2).symm
      · rw [if_neg c10] at e2
        have d := gi_of_ne c10
        obtain ⟨c, hc⟩ : ∃ c : Nat, (eA g 0 0 1).toInt = (c : Int) := ⟨(eA g 0 0 1).toInt.toNat, by omega⟩
        obtain ⟨N, hN⟩ : ∃ N : Nat, (eA g 0 0 5).toInt = (N : Int) := ⟨(eA g 0 0 5).toInt.toNat, by omega⟩
        obtain ⟨v1, v2, v3, v4, v5⟩ := cp_addGoose (c := c) a5 (by rw [s3]; exact hc) (by omega)
        obtain ⟨g6, b6, e2⟩ := ob1_some e2
        obtain ⟨t1, t2, t3⟩ := mp_tells (b := 30) (c := c) b6 rfl (by decide) hc (by omega)
        obtain ⟨k1, k2, k3', k4⟩ := mp_goose49 (c := c) (N := N) (by omega) (by omega) _ g6 0 w e2 (by decide) (by rw [t2 1 (by omega)]; exact hc) (by rw [t2 5 (by omega)]; exact hN)
        rw [t2 1 (by omega)] at k1 k2
        have v1 : r5 = eI h 1 3 := v1
        have v2 : eI h5 1 3 = eI h 1 3 + 1 := v2
        have v3 : ∀ k : Nat, k < 9 → eA h5 1 0 (9 * c + k) = tv p1 p2 k := v3
        have v4 : ∀ i : Nat, i < 9 * c → eA h5 1 0 i = eA h 1 0 i := v4
        have v5 : Fr [(1, 1, 0), (0, 1, 3)] h h5 := v5
        have a1 := fb_addI (x := eA g 0 0 1) (y := 1) (by omega) (by omega)
        -- the new row: told cells, the rest as before
        have T30 : ∀ k : Nat, k < 9 → gc (eA w.2 0 0) 30 c k = tv p1 p2 k := fun k hk => by
          rw [← t1 k hk]
          exact k4 _ (by omega) (fun j _ _ => by omega)
        have TJ : ∀ j k : Nat, j < N → k < 9 → gc (eA w.2 0 0) (130 + 93 * j) c k = tv p1 p2 k := fun j k hj hk => k3' j k (by omega) hj hk
        have U : ∀ i : Nat, ¬ i = 1 → (i < 30 + 9 * c ∨ 30 + 9 * c + 9 ≤ i) → (∀ j : Nat, j < N → (i < 130 + 93 * j + 9 * c ∨ 130 + 93 * j + 9 * c + 9 ≤ i)) → eA w.2 0 0 i = eA g 0 0 i := fun i hi q1 q2 => (k4 i hi (fun j _ hj => q2 j hj)).trans (t2 i q1)
        have Ulo : ∀ i : Nat, ¬ i = 1 → (i < 30 + 9 * c ∨ 30 + 9 * c + 9 ≤ i) → i < 130 → eA w.2 0 0 i = eA g 0 0 i := fun i hi q1 q2 => U i hi q1 (fun j _ => by omega)
        have UR : ∀ j i : Nat, j < N → i < 93 → (i < 9 * c ∨ 9 * c + 9 ≤ i) → eA w.2 0 0 (130 + 93 * j + i) = eA g 0 0 (130 + 93 * j + i) := fun j i hj hi q => U _ (by omega) (by omega) (fun j' _ => by
          by_cases cj : j' = j
          · subst cj; omega
          · omega)
        obtain ⟨⟨s1, s2, s3', s4, s5, s6, s7, s8, s9⟩, ge, mk, f0, st⟩ := id sr
        obtain ⟨r1', r2', r3'', r4'⟩ := id rg
        generalize hB : eA w.2 0 0 = B at *
        have B1 : (B 1).toInt = (c : Int) + 1 := by rw [k2]; omega
        refine ⟨?_, ?_, ?_⟩
        · show r5 = w.1
          rw [v1, k1, s3]
        · rw [hB]
          refine ⟨⟨?_, ?_, ?_, ?_, ?_, ?_, ?_, ?_, ?_⟩, ?_, ?_, ?_, ?_⟩
          · show eI h5 1 3 = B 1
            rw [v2, k2, s3]
          · exact (v5.1 1 4 (by decide)).trans (s2.trans (Ulo 0 (by decide) (by omega) (by decide)).symm)
          · exact (v5.1 1 5 (by decide)).trans (s3'.trans (Ulo 120 (by decide) (by omega) (by decide)).symm)
          · exact (v5.1 1 6 (by decide)).trans (s4.trans (Ulo 2 (by decide) (by omega) (by decide)).symm)
          · exact (v5.1 1 7 (by decide)).trans (s5.trans (Ulo 121 (by decide) (by omega) (by decide)).symm)
          · exact (v5.1 1 8 (by decide)).trans (s6.trans (Ulo 122 (by decide) (by omega) (by decide)).symm)
          · exact (v5.1 1 9 (by decide)).trans (s7.trans (Ulo 3 (by decide) (by omega) (by decide)).symm)
          · exact (v5.1 1 10 (by decide)).trans (s8.trans (Ulo 4 (by decide) (by omega) (by decide)).symm)
          · exact (v5.1 1 12 (by decide)).trans (s9.trans (Ulo 5 (by decide) (by omega) (by decide)).symm)
          · intro i hi
            show eA h5 1 0 i = _
            by_cases ci : i < 9 * c
            · rw [v4 i ci, Ulo _ (by omega) (by omega) (by omega)]
              exact ge i (by omega)
            · rw [show i = 9 * c + (i - 9 * c) by omega, v3 (i - 9 * c) (by omega)]
              exact (T30 (i - 9 * c) (by omega)).symm
          · show MKT (eA h5 1 1) B
            rw [v5.2.1 1 1 (by decide)]
            intro i hi
            rw [Ulo 0 (by decide) (by omega) (by decide)] at hi
            rw [Ulo _ (by omega) (by omega) (by omega)]
            exact mk i hi
          · show 0 ≤ (eI h5 1 11).toInt ∧ (eI h5 1 11).toInt < 20
            rw [v5.1 1 11 (by decide)]; exact f0
          · show STEPS (eA h5 1 2) B (eI h5 1 11).toInt.toNat (B 5).toInt.toNat
            rw [v5.2.1 1 2 (by decide), v5.1 1 11 (by decide), Ulo 5 (by decide) (by omega) (by decide)]
            have Nn : (eA g 0 0 5).toInt.toNat = N := by omega
            rw [Nn] at st ⊢
            intro j hj
            obtain ⟨x1, x2, x3, x4, x5, x6⟩ := st j hj
            refine ⟨⟨x1.1, by omega⟩, fun i hi => ?_, fun i q1 q2 => ?_, ?_, ?_, ?_⟩
            · rw [UR j i hj (by omega) (by omega)]
              exact x2 i hi
            · by_cases ci : i < 9 * c
              · rw [UR j i hj (by omega) (by omega), x3 i q1 (by omega)]
                unfold nxr
                by_cases cn : j + 1 < N
                · rw [if_pos cn]; exact (UR (j + 1) i cn (by omega) (by omega)).symm
                · rw [if_neg cn]; exact (Ulo _ (by omega) (by omega) (by omega)).symm
              · rw [show i = 9 * c + (i - 9 * c) by omega]
                refine (TJ j (i - 9 * c) hj (by omega)).trans ?_
                unfold nxr
                by_cases cn : j + 1 < N
                · rw [if_pos cn]; exact (TJ (j + 1) (i - 9 * c) cn (by omega)).symm
                · rw [if_neg cn]; exact (T30 (i - 9 * c) (by omega)).symm
            · rw [UR j 90 hj (by decide) (by omega)]; exact x4
            · rw [UR j 91 hj (by decide) (by omega)]; exact x5
            · rw [UR j 92 hj (by decide) (by omega)]; exact x6
        · rw [hB]
          have L0 : B 0 = eA g 0 0 0 := Ulo 0 (by decide) (by omega) (by decide)
          refine ⟨?_, ?_, ⟨?_, ?_, fun p hp => ?_⟩, fun j hj => ⟨?_, ?_, fun p hp => ?_⟩⟩
          · unfold RN
            rw [B1, L0, Ulo 5 (by decide) (by omega) (by decide), Ulo 3 (by decide) (by omega) (by decide), Ulo 4 (by decide) (by omega) (by decide), Ulo 2 (by decide) (by omega) (by decide)]
            omega
          · intro m hm
            rw [L0] at hm
            rw [Ulo _ (by omega) (by omega) (by omega), Ulo _ (by omega) (by omega) (by omega), Ulo _ (by omega) (by omega) (by omega)]
            exact r2' m hm
          · show 0 ≤ (B 120).toInt
            rw [Ulo 120 (by decide) (by omega) (by decide)]; exact r3''.1
          · show 0 ≤ (B 121).toInt ∧ (B 121).toInt ≤ 999
            rw [Ulo 121 (by decide) (by omega) (by decide)]; exact r3''.2.1
          · by_cases cp : p = c
            · subst cp; exact tv_GR T30 (by omega) (by omega)
            · rw [L0]
              exact GR_eq (r3''.2.2 p (by omega)) (fun k hk => Ulo _ (by omega) (by omega) (by omega)) (Int.le_refl _)
          · rw [Ulo 5 (by decide) (by omega) (by decide)] at hj
            rw [UR j 90 (by omega) (by decide) (by omega)]; exact (r4' j hj).1
          · rw [Ulo 5 (by decide) (by omega) (by decide)] at hj
            rw [UR j 91 (by omega) (by decide) (by omega)]; exact (r4' j hj).2.1
          · rw [Ulo 5 (by decide) (by omega) (by decide)] at hj
            by_cases cp : p = c
            · subst cp; exact tv_GR (fun k hk => TJ j k (by omega) hk) (by omega) (by omega)
            · rw [L0]
              exact GR_eq ((r4' j hj).2.2 p (by omega)) (fun k hk => UR j _ (by omega) (by omega) (by omega)) (Int.le_refl _)
