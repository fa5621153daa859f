/-! the reference's small steps, each as what it leaves -/
theorem mp_emits {g g' : HS} {p v : Int32} (e : f_X9_emits g p v = some g') : (0 ≤ (eI g 0 36).toInt ∧ (eI g 0 36).toInt < 400) ∧ g' = sI (sA (sA g 0 37 (upd (eA g 0 37) (eI g 0 36).toInt.toNat p)) 0 38 (upd (eA g 0 38) (eI g 0 36).toInt.toNat v)) 0 36 (eI g 0 36 + 1) := by
  unfold f_X9_emits at e
  obtain ⟨k, e⟩ := ob_if e
  obtain ⟨-, e⟩ := ob_if e
  cases e
  exact ⟨k, rfl⟩
theorem mp_opensFrame {g g' : HS} {p : Int32} (e : f_X9_opensFrame g p = some g') : (0 ≤ (eI g 0 22).toInt ∧ (eI g 0 22).toInt < 40) ∧ g' = sI (sA g 0 23 (upd (eA g 0 23) (eI g 0 22).toInt.toNat p)) 0 22 (eI g 0 22 + 1) := by
  unfold f_X9_opensFrame at e
  obtain ⟨k, e⟩ := ob_if e
  cases e
  exact ⟨k, rfl⟩
theorem mp_top {g : HS} {z : Int32 × HS} (e : f_X9_top g = some z) : (1 ≤ (eI g 0 22).toInt ∧ (eI g 0 22).toInt ≤ 40) ∧ z = (eA g 0 23 ((eI g 0 22).toInt.toNat - 1), g) := by
  have z1 : (1 : Int32).toInt = 1 := rfl
  unfold f_X9_top at e
  obtain ⟨k, e⟩ := ob_if e
  cases e
  have r := fb_rng (eI g 0 22)
  have s : (eI g 0 22 - 1).toInt = (eI g 0 22).toInt - 1 := by
    by_cases c : -2147483648 ≤ (eI g 0 22).toInt - 1
    · rw [fb_subI (by omega) (by omega)]; omega
    · exfalso
      have e : eI g 0 22 = -2147483648 := gi_eq (by have : (-2147483648 : Int32).toInt = -2147483648 := rfl; omega)
      rw [e] at k
      exact absurd k (by decide)
  refine ⟨by omega, ?_⟩
  have : (eI g 0 22 - 1).toNatClampNeg = (eI g 0 22).toInt.toNat - 1 := by rw [Int32.toNatClampNeg]; omega
  rw [this]
theorem mp_isSign {g : HS} {p : Int32} {z : Int32 × HS} (e : f_X9_isSign g p = some z) : z.2 = g ∧ ((z.1 = 0 ∧ ¬ ((eI g 0 17).toInt = 3 ∧ (eI g 0 18).toInt = p.toInt)) ∨ (z.1 = 1 ∧ (eI g 0 17).toInt = 3 ∧ (eI g 0 18).toInt = p.toInt)) := by
  have z3 : (3 : Int32).toInt = 3 := rfl
  unfold f_X9_isSign f_X9_isSign_20 f_X9_isSign_21 at e
  by_cases c1 : eI g 0 17 = 3
  · rw [if_pos c1] at e
    have d1 := gi_of_eq c1
    by_cases c2 : eI g 0 18 = p
    · rw [if_pos c2] at e; cases e
      exact ⟨rfl, Or.inr ⟨rfl, by omega, by rw [c2]⟩⟩
    · rw [if_neg c2] at e; cases e
      exact ⟨rfl, Or.inl ⟨rfl, fun q => c2 (gi_eq q.2)⟩⟩
  · rw [if_neg c1] at e; cases e
    have d1 := gi_of_ne c1
    exact ⟨rfl, Or.inl ⟨rfl, fun q => by omega⟩⟩
theorem mp_isWord {g : HS} {p : Int32} {z : Int32 × HS} (e : f_X9_isWord g p = some z) : z.2 = g ∧ ((z.1 = 0 ∧ ¬ ((eI g 0 17).toInt = 1 ∧ (eI g 0 18).toInt = p.toInt)) ∨ (z.1 = 1 ∧ (eI g 0 17).toInt = 1 ∧ (eI g 0 18).toInt = p.toInt)) := by
  have z3 : (1 : Int32).toInt = 1 := rfl
  unfold f_X9_isWord f_X9_isWord_20 f_X9_isWord_21 at e
  by_cases c1 : eI g 0 17 = 1
  · rw [if_pos c1] at e
    have d1 := gi_of_eq c1
    by_cases c2 : eI g 0 18 = p
    · rw [if_pos c2] at e; cases e
      exact ⟨rfl, Or.inr ⟨rfl, by omega, by rw [c2]⟩⟩
    · rw [if_neg c2] at e; cases e
      exact ⟨rfl, Or.inl ⟨rfl, fun q => c2 (gi_eq q.2)⟩⟩
  · rw [if_neg c1] at e; cases e
    have d1 := gi_of_ne c1
    exact ⟨rfl, Or.inl ⟨rfl, fun q => by omega⟩⟩
def rnk (p : Int) : Int := if p = 407 then 1 else if p = 406 then 2 else if p = 43 then 3 else if p = 45 then 3 else 4
theorem mp_rank {x r : Int32} (e : f_X9_rank x = some r) : r.toInt = rnk x.toInt := by
  have z1 : (407 : Int32).toInt = 407 := rfl
  have z2 : (406 : Int32).toInt = 406 := rfl
  have z3 : (43 : Int32).toInt = 43 := rfl
  have z4 : (45 : Int32).toInt = 45 := rfl
  unfold f_X9_rank f_X9_rank_34 f_X9_rank_39 at e
  unfold rnk
  by_cases c1 : x = 407
  · rw [if_pos c1] at e; cases e; rw [if_pos (by rw [c1]; rfl)]; rfl
  rw [if_neg c1] at e
  rw [if_neg (fun q => c1 (gi_eq (by omega)))]
  by_cases c2 : x = 406
  · rw [if_pos c2] at e; cases e; rw [if_pos (by rw [c2]; rfl)]; rfl
  rw [if_neg c2] at e
  rw [if_neg (fun q => c2 (gi_eq (by omega)))]
  by_cases c3 : x = 43
  · rw [if_pos c3] at e; cases e; rw [if_pos (by rw [c3]; rfl)]; rfl
  rw [if_neg c3] at e
  rw [if_neg (fun q => c3 (gi_eq (by omega)))]
  by_cases c4 : x = 45
  · rw [if_pos c4] at e; cases e; rw [if_pos (by rw [c4]; rfl)]; rfl
  rw [if_neg c4] at e
  rw [if_neg (fun q => c4 (gi_eq (by omega)))]
  cases e
  rfl
/-- operators that wait, the last told first -/
def WD (w wf : Nat → Int32) (F : Int) : Nat → List Int → Prop
  | _, [] => True
  | n, p :: r => ∃ m : Nat, n = m + 1 ∧ (w m).toInt = p ∧ (wf m).toInt = F ∧ WD w wf F m r
/-- what stands from a place on -/
def EMI (a : Nat → Int32) : Nat → List Int → Prop
  | _, [] => True
  | i, p :: r => (a i).toInt = p ∧ EMI a (i + 1) r
def STOP (w wf : Nat → Int32) (F x : Int) (n : Nat) : Prop := n = 0 ∨ ∃ k : Nat, n = k + 1 ∧ (¬ (wf k).toInt = F ∨ rnk (w k).toInt < x)
theorem mp_works {F : Int} {x1 : Int32} : ∀ (ps : List Int) (m : Nat) (g g' : HS) (n0 : Nat), f_X9_works_0 m g x1 = some g' → (eI g 0 25).toInt = ((n0 + ps.length : Nat) : Int) → (eI g 0 22).toInt = F → WD (eA g 0 26) (eA g 0 27) F (n0 + ps.length) ps → (∀ p ∈ ps, x1.toInt ≤ rnk p) → STOP (eA g 0 26) (eA g 0 27) F x1.toInt n0 → (eI g' 0 25).toInt = (n0 : Int) ∧ (eI g' 0 36).toInt = (eI g 0 36).toInt + (ps.length : Int) ∧ (∀ i : Nat, (i : Int) < (eI g 0 36).toInt → eA g' 0 37 i = eA g 0 37 i ∧ eA g' 0 38 i = eA g 0 38 i) ∧ EMI (eA g' 0 37) (eI g 0 36).toInt.toNat ps ∧ Fr [(0, 0, 25), (0, 0, 36), (1, 0, 37), (1, 0, 38)] g g' := by
  have z0 : (0 : Int32).toInt = 0 := rfl
  have z1 : (1 : Int32).toInt = 1 := rfl
  intro ps
  induction ps with
  | nil =>
    intro m g g' n0 e hn hF hw hp hs
    have same : g = g' → (eI g' 0 25).toInt = (n0 : Int) ∧ (eI g' 0 36).toInt = (eI g 0 36).toInt + (([] : List Int).length : Int) ∧ (∀ i : Nat, (i : Int) < (eI g 0 36).toInt → eA g' 0 37 i = eA g 0 37 i ∧ eA g' 0 38 i = eA g 0 38 i) ∧ EMI (eA g' 0 37) (eI g 0 36).toInt.toNat [] ∧ Fr [(0, 0, 25), (0, 0, 36), (1, 0, 37), (1, 0, 38)] g g' := by
      intro q
      subst q
      exact ⟨hn, by show _ = _ + (0 : Int); omega, fun i _ => ⟨rfl, rfl⟩, trivial, Fr_refl _ _⟩
    cases m with
    | zero => cases e
    | succ m =>
      rw [f_X9_works_0_s] at e
      unfold f_X9_works_70 at e
      have hn : (eI g 0 25).toInt = (n0 : Int) := hn
      by_cases c1 : eI g 0 25 ≤ 0
      · rw [if_pos c1] at e
        exact same (Option.some.inj e)
      · rw [if_neg c1] at e
        have d1 := gi_of_nle c1
        have rg := fb_rng (eI g 0 25)
        have s1 := fb_subI (x := eI g 0 25) (y := 1) (by omega) (by omega)
        rcases hs with hs | ⟨k, hk, hs⟩
        · omega
        · have ik : (eI g 0 25 - 1).toNatClampNeg = k := by rw [Int32.toNatClampNeg]; omega
          obtain ⟨-, e⟩ := ob_if e
          rw [ik] at e
          by_cases c2 : eA g 0 27 k = eI g 0 22
          · rw [if_pos c2] at e
            have d2 := gi_of_eq c2
            obtain ⟨-, e⟩ := ob_if e
            obtain ⟨r5, e5, e⟩ := ob1_some e
            have k5 := mp_rank e5
            rcases hs with hs | hs
            · exact absurd (by omega) hs
            · by_cases c3 : r5 < x1
              · rw [if_pos c3] at e
                exact same (Option.some.inj e)
              · exact absurd (gi_of_nlt c3) (by omega)
          · rw [if_neg c2] at e
            exact same (Option.some.inj e)
  | cons p r ih =>
    intro m g g' n0 e hn hF hw hp hs
    rw [List.length_cons] at hn hw
    obtain ⟨k, hk, w1, w2, w3⟩ := hw
    have hk : k = n0 + r.length := by omega
    cases m with
    | zero => cases e
    | succ m =>
      rw [f_X9_works_0_s] at e
      have rg := fb_rng (eI g 0 25)
      have s1 := fb_subI (x := eI g 0 25) (y := 1) (by omega) (by omega)
      have ik : (eI g 0 25 - 1).toNatClampNeg = k := by rw [Int32.toNatClampNeg]; omega
      rw [if_neg (fun c => by have := gi_of_le c; omega)] at e
      obtain ⟨-, e⟩ := ob_if e
      rw [ik, if_pos (gi_eq (w2.trans hF.symm))] at e
      obtain ⟨-, e⟩ := ob_if e
      obtain ⟨r5, e5, e⟩ := ob1_some e
      have k5 := mp_rank e5
      rw [w1] at k5
      have hp1 := hp p List.mem_cons_self
      rw [if_neg (fun c => by have := gi_of_lt c; omega)] at e
      obtain ⟨-, e⟩ := ob_if e
      obtain ⟨g1, e1, e⟩ := ob1_some e
      obtain ⟨q1, rfl⟩ := mp_emits e1
      have q1 : 0 ≤ (eI g 0 36).toInt ∧ (eI g 0 36).toInt < 400 := q1
      have a1 := fb_addI (x := eI g 0 36) (y := 1) (by omega) (by omega)
      obtain ⟨j1, j2, j3, j4, j5⟩ := ih m _ g' n0 e (by show (eI g 0 25 - 1).toInt = _; omega) hF (by show WD (eA g 0 26) (eA g 0 27) F (n0 + r.length) r; rw [← hk]; exact w3) (fun q hq => hp q (List.mem_cons_of_mem _ hq)) hs
      have j2 : (eI g' 0 36).toInt = (eI g 0 36 + 1).toInt + (r.length : Int) := j2
      have j3 : ∀ i : Nat, (i : Int) < (eI g 0 36 + 1).toInt → eA g' 0 37 i = upd (eA g 0 37) (eI g 0 36).toInt.toNat (eA g 0 26 k) i ∧ eA g' 0 38 i = upd (eA g 0 38) (eI g 0 36).toInt.toNat 0 i := j3
      have j4 : EMI (eA g' 0 37) (eI g 0 36 + 1).toInt.toNat r := j4
      refine ⟨j1, by rw [List.length_cons]; omega, fun i hi => ?_, ⟨?_, ?_⟩, Fr_trans (Fr_sI (by decide) (Fr_sA (by decide) (Fr_sA (by decide) (Fr_sI (by decide) (Fr_refl _ _))))) j5⟩
      · have q := j3 i (by omega)
        unfold upd at q
        rw [if_neg (by omega), if_neg (by omega)] at q
        exact q
      · have q := (j3 (eI g 0 36).toInt.toNat (by omega)).1
        unfold upd at q
        rw [if_pos rfl] at q
        rw [q]; exact w1
      · rw [show (eI g 0 36).toInt.toNat + 1 = (eI g 0 36 + 1).toInt.toNat by omega]
        exact j4
theorem mp_one {m : Nat} {g g' : HS} (e : f_X9_oneIsOver_0 m g = some g') : (¬ (eA g 0 23 ((eI g 0 22).toInt.toNat - 1)).toInt = 7 ∧ g' = sI g 0 28 2) ∨ ((eA g 0 23 ((eI g 0 22).toInt.toNat - 1)).toInt = 7 ∧ ∃ (n : Nat) (g1 : HS), f_X9_emits (sI (sI g 0 22 (eI g 0 22 - 1)) 0 21 (eI g 0 21 - 1)) 402 0 = some g1 ∧ f_X9_oneIsOver_0 n g1 = some g') := by
  have z7 : (7 : Int32).toInt = 7 := rfl
  cases m with
  | zero => cases e
  | succ m =>
    rw [f_X9_oneIsOver_0_s] at e
    obtain ⟨r1, g1, e1, e⟩ := ob2_some e
    obtain ⟨-, q⟩ := mp_top e1
    cases q
    by_cases c : eA g 0 23 ((eI g 0 22).toInt.toNat - 1) = 7
    · rw [if_pos c] at e
      obtain ⟨g3, e3, e⟩ := ob1_some e
      exact Or.inr ⟨by rw [c]; rfl, m, g3, e3, e⟩
    · rw [if_neg c] at e
      cases e
      exact Or.inl ⟨fun q => c (gi_eq (by omega)), rfl⟩
theorem mp_ask {m : Nat} {g g' : HS} (e : f_X9_askIsOver_0 m g = some g') : (¬ (eA g 0 23 ((eI g 0 22).toInt.toNat - 1)).toInt = 3 ∧ g' = sI g 0 28 3) ∨ ((eA g 0 23 ((eI g 0 22).toInt.toNat - 1)).toInt = 3 ∧ ∃ (n : Nat) (g1 : HS), f_X9_emits (sI (sI g 0 22 (eI g 0 22 - 1)) 0 21 (eI g 0 21 - 1)) 405 0 = some g1 ∧ f_X9_askIsOver_0 n g1 = some g') := by
  have z7 : (3 : Int32).toInt = 3 := rfl
  cases m with
  | zero => cases e
  | succ m =>
    rw [f_X9_askIsOver_0_s] at e
    obtain ⟨r1, g1, e1, e⟩ := ob2_some e
    obtain ⟨-, q⟩ := mp_top e1
    cases q
    by_cases c : eA g 0 23 ((eI g 0 22).toInt.toNat - 1) = 3
    · rw [if_pos c] at e
      obtain ⟨g3, e3, e⟩ := ob1_some e
      exact Or.inr ⟨by rw [c]; rfl, m, g3, e3, e⟩
    · rw [if_neg c] at e
      cases e
      exact Or.inl ⟨fun q => c (gi_eq (by omega)), rfl⟩
/-- one turn of the reference's loop over a text -/
theorem mp_turn {N : Nat} {g : HS} {r : Int32 × HS} (e : f_X9_text_74 N g = some r) (h0 : eI g 0 19 = 0) : ((eI g 0 28).toInt = 0 → ∃ (n : Nat) (g1 : HS), f_X9_asks g = some g1 ∧ f_X9_text_74 n g1 = some r) ∧ ((eI g 0 28).toInt = 1 → ∃ (n : Nat) (g1 : HS), f_X9_begins g = some g1 ∧ f_X9_text_74 n g1 = some r) ∧ ((eI g 0 28).toInt = 2 → ∃ (n : Nat) (g1 : HS), f_X9_goesOn g = some g1 ∧ f_X9_text_74 n g1 = some r) ∧ ((eI g 0 28).toInt = 3 → ∃ (n : Nat) (g1 : HS), f_X9_asksOn g = some g1 ∧ f_X9_text_74 n g1 = some r) ∧ ((eI g 0 28).toInt = 4 → ¬ (eI g 0 17).toInt = 0 → ∃ (n : Nat) (g1 : HS), f_X9_clause g = some g1 ∧ f_X9_text_74 n g1 = some r) := by
  have z0 : (0 : Int32).toInt = 0 := rfl
  have z1 : (1 : Int32).toInt = 1 := rfl
  have z2 : (2 : Int32).toInt = 2 := rfl
  have z3 : (3 : Int32).toInt = 3 := rfl
  have z4 : (4 : Int32).toInt = 4 := rfl
  cases N with
  | zero => cases e
  | succ N =>
    rw [f_X9_text_74_s, if_pos h0] at e
    have go : (¬ (eI g 0 28).toInt = 4 ∨ ¬ (eI g 0 17).toInt = 0) → f_X9_text_96 (f_X9_text_74 N) g = some r := by
      intro q
      by_cases c4 : eI g 0 28 = 4
      · rw [if_pos c4] at e
        have d4 := gi_of_eq c4
        rw [if_neg (fun c => by have := gi_of_eq c; omega)] at e
        exact e
      · rw [if_neg c4] at e
        exact e
    refine ⟨fun s => ?_, fun s => ?_, fun s => ?_, fun s => ?_, fun s t => ?_⟩
    · have e := go (Or.inl (by omega))
      unfold f_X9_text_96 at e
      rw [if_pos (gi_eq s)] at e
      obtain ⟨g1, e1, e⟩ := ob1_some e
      exact ⟨N, g1, e1, e⟩
    · have e := go (Or.inl (by omega))
      unfold f_X9_text_96 at e
      rw [if_neg (fun c => by have := gi_of_eq c; omega), if_pos (gi_eq s)] at e
      obtain ⟨g1, e1, e⟩ := ob1_some e
      exact ⟨N, g1, e1, e⟩
    · have e := go (Or.inl (by omega))
      unfold f_X9_text_96 at e
      rw [if_neg (fun c => by have := gi_of_eq c; omega), if_neg (fun c => by have := gi_of_eq c; omega), if_pos (gi_eq s)] at e
      obtain ⟨g1, e1, e⟩ := ob1_some e
      exact ⟨N, g1, e1, e⟩
    · have e := go (Or.inl (by omega))
      unfold f_X9_text_96 at e
      rw [if_neg (fun c => by have := gi_of_eq c; omega), if_neg (fun c => by have := gi_of_eq c; omega), if_neg (fun c => by have := gi_of_eq c; omega), if_pos (gi_eq s)] at e
      obtain ⟨g1, e1, e⟩ := ob1_some e
      exact ⟨N, g1, e1, e⟩
    · have e := go (Or.inr t)
      unfold f_X9_text_96 at e
      rw [if_neg (fun c => by have := gi_of_eq c; omega), if_neg (fun c => by have := gi_of_eq c; omega), if_neg (fun c => by have := gi_of_eq c; omega), if_neg (fun c => by have := gi_of_eq c; omega)] at e
      obtain ⟨g1, e1, e⟩ := ob1_some e
      exact ⟨N, g1, e1, e⟩
