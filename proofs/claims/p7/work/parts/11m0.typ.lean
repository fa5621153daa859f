/-! the class's steps by types: false a number, true a question; never deeper than lim -/
def step1 (s : Int) (S : List Bool) : Option (List Bool) :=
  if s < 20000 then some (false :: S) else
  if s = 20038 then (match S with
    | false :: R => some (false :: R)
    | _ => none) else
  if s = 20028 then (match S with
    | true :: R => some (true :: R)
    | _ => none) else
  if s = 20026 ∨ s = 20027 then (match S with
    | true :: true :: R => some (true :: R)
    | _ => none) else
  if 20003 ≤ s ∧ s ≤ 20008 then (match S with
    | false :: false :: R => some (true :: R)
    | _ => none) else
  (match S with
    | false :: false :: R => some (false :: R)
    | _ => none)
def ty (st : Nat → Int32) (lim : Nat) : Nat → Nat → List Bool → Option (List Bool)
  | 0, _, S => some S
  | n + 1, i, S => match step1 (st i).toInt S with
    | none => none
    | some S' => if S'.length ≤ lim then ty st lim n (i + 1) S' else none
theorem ty_one {st : Nat → Int32} {lim i : Nat} {S R : List Bool} (h : step1 (st i).toInt S = some R) (l : R.length ≤ lim) : ty st lim 1 i S = some R := by
  show (match step1 (st i).toInt S with
    | none => none
    | some S' => if S'.length ≤ lim then ty st lim 0 (i + 1) S' else none) = some R
  rw [h]
  show (if R.length ≤ lim then some R else none) = some R
  rw [if_pos l]
theorem ty_add {st : Nat → Int32} {lim : Nat} : ∀ (n m i : Nat) (S R T : List Bool), ty st lim n i S = some R → ty st lim m (i + n) R = some T → ty st lim (n + m) i S = some T := by
  intro n
  induction n with
  | zero =>
    intro m i S R T h1 h2
    cases h1
    rw [Nat.zero_add]
    exact h2
  | succ n ih =>
    intro m i S R T h1 h2
    rw [show n + 1 + m = (n + m) + 1 by omega]
    unfold ty at h1 ⊢
    cases hs : step1 (st i).toInt S with
    | none => rw [hs] at h1; cases h1
    | some S' =>
      rw [hs] at h1
      by_cases c : S'.length ≤ lim
      · have h1 : (if S'.length ≤ lim then ty st lim n (i + 1) S' else none) = some R := h1
        rw [if_pos c] at h1
        show (if S'.length ≤ lim then ty st lim (n + m) (i + 1) S' else none) = some T
        rw [if_pos c]
        exact ih m (i + 1) S' R T h1 (by rw [show i + 1 + n = i + (n + 1) by omega]; exact h2)
      · have h1 : (if S'.length ≤ lim then ty st lim n (i + 1) S' else none) = some R := h1
        rw [if_neg c] at h1
        cases h1
theorem ty_congr {a b : Nat → Int32} {lim : Nat} : ∀ (n i : Nat) (S : List Bool), (∀ j : Nat, i ≤ j → j < i + n → b j = a j) → ty b lim n i S = ty a lim n i S := by
  intro n
  induction n with
  | zero => intro i S _; rfl
  | succ n ih =>
    intro i S h
    unfold ty
    rw [h i (Nat.le_refl _) (by omega)]
    cases step1 (a i).toInt S with
    | none => rfl
    | some S' =>
      show (if S'.length ≤ lim then ty b lim n (i + 1) S' else none) = (if S'.length ≤ lim then ty a lim n (i + 1) S' else none)
      rw [ih (i + 1) S' (fun j h1 h2 => h j (by omega) (by omega))]
def TYR (o : Nat) (h h' : HS) (M : Int) (b : Bool) : Prop := (eI h o 5).toInt ≤ (eI h' o 5).toInt ∧ (eI h' o 5).toInt - (eI h o 5).toInt ≤ at_ h' - at_ h ∧ (∀ i : Nat, (i : Int) < (eI h o 5).toInt → eA h' o 2 i = eA h o 2 i) ∧ ∀ (S : List Bool) (lim : Nat), (S.length : Int) + M ≤ (lim : Int) → ty (eA h' o 2) lim ((eI h' o 5).toInt - (eI h o 5).toInt).toNat (eI h o 5).toInt.toNat S = some (b :: S)
theorem TYR_le {o : Nat} {h h' : HS} {M N : Int} {b : Bool} (x : TYR o h h' M b) (l : M ≤ N) : TYR o h h' N b := ⟨x.1, x.2.1, x.2.2.1, fun S lim q => x.2.2.2 S lim (by omega)⟩
/-- a step that turns what stands on top -/
theorem tyr_un {o : Nat} {h h1 h2 h3 : HS} {M : Int} {b b' : Bool} {s : Int32} (n : 0 ≤ (eI h o 5).toInt) (a0 : eI h1 o 5 = eI h o 5) (a1 : eA h1 o 2 = eA h o 2) (a2 : at_ h1 = at_ h + 1) (x : TYR o h1 h2 M b) (c1 : (eI h3 o 5).toInt = (eI h2 o 5).toInt + 1) (c2 : eA h3 o 2 = upd (eA h2 o 2) (eI h2 o 5).toInt.toNat s) (c3 : at_ h3 = at_ h2) (hs : ∀ S : List Bool, step1 s.toInt (b :: S) = some (b' :: S)) (hM : 1 ≤ M) : TYR o h h3 M b' := by
  obtain ⟨x1, x2, x3, x4⟩ := x
  rw [a0] at x1 x2 x3 x4
  rw [a1] at x3
  refine ⟨by omega, by omega, fun i hi => ?_, fun S lim q => ?_⟩
  · rw [c2]
    unfold upd
    rw [if_neg (by omega)]
    exact x3 i hi
  · rw [show ((eI h3 o 5).toInt - (eI h o 5).toInt).toNat = ((eI h2 o 5).toInt - (eI h o 5).toInt).toNat + 1 by omega]
    refine ty_add _ 1 _ S (b :: S) (b' :: S) ?_ ?_
    · rw [ty_congr (a := eA h2 o 2) _ _ _ (fun j j1 j2 => ?_)]
      · exact x4 S lim q
      · rw [c2]
        unfold upd
        rw [if_neg (by omega)]
    · refine ty_one ?_ (by show S.length + 1 ≤ lim; omega)
      rw [c2]
      unfold upd
      rw [if_pos (by omega)]
      exact hs S
/-- a step that joins two -/
theorem tyr_bin {o : Nat} {h h1 h2 h3 h4 : HS} {M1 M2 M : Int} {b1 b2 b3 : Bool} {s : Int32} (n : 0 ≤ (eI h o 5).toInt) (x : TYR o h h1 M1 b1) (a0 : eI h2 o 5 = eI h1 o 5) (a1 : eA h2 o 2 = eA h1 o 2) (a2 : at_ h2 = at_ h1 + 1) (y : TYR o h2 h3 M2 b2) (c1 : (eI h4 o 5).toInt = (eI h3 o 5).toInt + 1) (c2 : eA h4 o 2 = upd (eA h3 o 2) (eI h3 o 5).toInt.toNat s) (c3 : at_ h4 = at_ h3) (hs : ∀ S : List Bool, step1 s.toInt (b2 :: b1 :: S) = some (b3 :: S)) (hM1 : M1 ≤ M) (hM2 : M2 + 1 ≤ M) (hM : 1 ≤ M) : TYR o h h4 M b3 := by
  obtain ⟨x1, x2, x3, x4⟩ := x
  obtain ⟨y1, y2, y3, y4⟩ := y
  rw [a0] at y1 y2 y3 y4
  rw [a1] at y3
  refine ⟨by omega, by omega, fun i hi => ?_, fun S lim q => ?_⟩
  · rw [c2]
    unfold upd
    rw [if_neg (by omega), y3 i (by omega)]
    exact x3 i hi
  · rw [show ((eI h4 o 5).toInt - (eI h o 5).toInt).toNat = ((eI h1 o 5).toInt - (eI h o 5).toInt).toNat + (((eI h3 o 5).toInt - (eI h1 o 5).toInt).toNat + 1) by omega]
    refine ty_add _ _ _ S (b1 :: S) (b3 :: S) ?_ ?_
    · rw [ty_congr (a := eA h1 o 2) _ _ _ (fun j j1 j2 => ?_)]
      · exact x4 S lim (by omega)
      · rw [c2]
        unfold upd
        rw [if_neg (by omega), y3 j (by omega)]
    · rw [show (eI h o 5).toInt.toNat + ((eI h1 o 5).toInt - (eI h o 5).toInt).toNat = (eI h1 o 5).toInt.toNat by omega]
      refine ty_add _ 1 _ (b1 :: S) (b2 :: b1 :: S) (b3 :: S) ?_ ?_
      · rw [ty_congr (a := eA h3 o 2) _ _ _ (fun j j1 j2 => ?_)]
        · exact y4 (b1 :: S) lim (by show ((S.length + 1 : Nat) : Int) + M2 ≤ _; omega)
        · rw [c2]
          unfold upd
          rw [if_neg (by omega)]
      · refine ty_one ?_ (by show S.length + 1 ≤ lim; omega)
        rw [c2]
        unfold upd
        rw [if_pos (by omega)]
        exact hs S
/-- a number or a name -/
theorem tyr_leaf {o : Nat} {h h3 : HS} {s : Int32} (n : 0 ≤ (eI h o 5).toInt) (c1 : (eI h3 o 5).toInt = (eI h o 5).toInt + 1) (c2 : eA h3 o 2 = upd (eA h o 2) (eI h o 5).toInt.toNat s) (c3 : at_ h3 = at_ h + 1) (hs : s.toInt < 20000) : TYR o h h3 1 false := by
  refine ⟨by omega, by omega, fun i hi => ?_, fun S lim q => ?_⟩
  · rw [c2]
    unfold upd
    rw [if_neg (by omega)]
  · rw [show ((eI h3 o 5).toInt - (eI h o 5).toInt).toNat = 1 by omega]
    refine ty_one ?_ (by show S.length + 1 ≤ lim; omega)
    rw [c2]
    unfold upd
    rw [if_pos rfl]
    unfold step1
    rw [if_pos hs]
def CT (B : Int → Int) (L : Int) (P : Nat → Int) (o : Nat) (h : HS) : Prop := L ≤ 300 ∧ TE B L h P ∧ 0 ≤ at_ h ∧ at_ h < (eI h 4 3).toInt ∧ 0 ≤ (eI h o 5).toInt ∧ (eI h o 5).toInt ≤ at_ h
theorem CT_kind {B : Int → Int} {L : Int} {P : Nat → Int} {o : Nat} {h : HS} {z : Int32 × HS} (t : CT B L P o h) (e : f_X7_kind h = some z) : z.2 = h ∧ z.1.toInt = kd h := by
  have z301 : (301 : Int32).toInt = 301 := rfl
  obtain ⟨hL, ⟨-, -, c2, -⟩, a1, a2, -⟩ := t
  unfold at_ at a1 a2
  unfold f_X7_kind f_X7_kind_35 f_X7_kind_36 at e
  rw [if_neg (fun c => by have := gi_of_le c; omega), if_neg (fun c => by have := gi_of_le c; omega)] at e
  obtain ⟨-, e⟩ := ob_if e
  cases e
  exact ⟨rfl, rfl⟩
theorem CT_value {B : Int → Int} {L : Int} {P : Nat → Int} {o : Nat} {h : HS} {z : Int32 × HS} (t : CT B L P o h) (e : f_X7_value h = some z) : z.2 = h ∧ z.1.toInt = vl h := by
  have z301 : (301 : Int32).toInt = 301 := rfl
  obtain ⟨hL, ⟨-, -, c2, -⟩, a1, a2, -⟩ := t
  unfold at_ at a1 a2
  unfold f_X7_value f_X7_value_35 f_X7_value_36 at e
  rw [if_neg (fun c => by have := gi_of_le c; omega), if_neg (fun c => by have := gi_of_le c; omega)] at e
  obtain ⟨-, e⟩ := ob_if e
  cases e
  exact ⟨rfl, rfl⟩
theorem CT_adv {B : Int → Int} {L : Int} {P : Nat → Int} {o : Nat} {h h' : HS} (ho : ¬ o = 4) (t : CT B L P o h) (k : ¬ kd h = 0) (e : f_X7_advance h = some h') : CT B L P o h' ∧ at_ h' = at_ h + 1 ∧ at_ h < 300 ∧ eI h' o 5 = eI h o 5 ∧ eA h' o 2 = eA h o 2 ∧ eI h' 5 0 = eI h 5 0 := by
  have z1 : (1 : Int32).toInt = 1 := rfl
  obtain ⟨hL, te, a1, a2, a3, a4⟩ := t
  obtain ⟨t1, t2, t3, t4⟩ := id te
  unfold at_ at a1 a2 a4
  unfold kd at k
  have i1 := t4 (eI h 4 4).toInt.toNat (by omega)
  have ne : ¬ (eI h 4 4).toInt = (eI h 4 3).toInt - 1 := fun q => k (i1.2.2.mpr (by omega))
  have s1 := fb_subI (x := eI h 4 3) (y := 1) (by omega) (by omega)
  have s2 := fb_addI (x := eI h 4 4) (y := 1) (by omega) (by omega)
  unfold f_X7_advance f_X7_advance_23 at e
  rw [if_neg (fun c => by have := gi_of_le c; omega)] at e
  cases e
  have h5 : eI (sI h 4 4 (eI h 4 4 + 1)) o 5 = eI h o 5 := by
    show (if o = 4 then (if (5 : Nat) = 4 then _ else _) else _) = _
    rw [if_neg ho]
    rfl
  refine ⟨⟨hL, te, ?_, ?_, ?_, ?_⟩, ?_, ?_, h5, rfl, rfl⟩
  · show 0 ≤ (eI h 4 4 + 1).toInt; omega
  · show (eI h 4 4 + 1).toInt < (eI h 4 3).toInt; omega
  · rw [h5]; exact a3
  · rw [h5]; show (eI h o 5).toInt ≤ (eI h 4 4 + 1).toInt; omega
  · show (eI h 4 4 + 1).toInt = (eI h 4 4).toInt + 1; omega
  · unfold at_; omega
theorem fail_nz {h h' : HS} {w : Int32} (e : f_X2_fail h w = some h') (hw : ¬ w = 0) : ¬ eI h' 5 0 = 0 := by
  by_cases c : eI h 5 0 = 0
  · unfold f_X2_fail f_X2_fail_20 at e
    rw [if_pos c] at e
    obtain ⟨r, h2, e2, e⟩ := ob2_some e
    cases e
    have f := w_f_X7_start _ _ e2
    show ¬ eI h2 5 0 = 0
    have f1 : eI h2 5 0 = w := f.1 5 0 (by decide)
    rw [f1]
    exact hw
  · rw [cp_fail_no e c]; exact c
theorem tyr_wrap {o : Nat} {h h1 h2 h3 : HS} {M : Int} {b : Bool} (a0 : eI h1 o 5 = eI h o 5) (a1 : eA h1 o 2 = eA h o 2) (a2 : at_ h1 = at_ h + 1) (x : TYR o h1 h2 M b) (c1 : eI h3 o 5 = eI h2 o 5) (c2 : eA h3 o 2 = eA h2 o 2) (c3 : at_ h3 = at_ h2 + 1) : TYR o h h3 M b := by
  obtain ⟨x1, x2, x3, x4⟩ := x
  rw [a0] at x1 x2 x3 x4
  rw [a1] at x3
  unfold TYR
  rw [c1, c2]
  exact ⟨x1, by omega, x3, x4⟩
/-! the names that a law of ink or of the code may ask: none of the market's -/
def NBS (s : Int32) : Prop := s.toInt < 10006 ∨ 20000 ≤ s.toInt
def NBQ (o : Nat) (F : Int) (h : HS) : Prop := ∀ i : Nat, F ≤ (i : Int) → (i : Int) < (eI h o 5).toInt → NBS (eA h o 2 i)
def NBR (o : Nat) (h h' : HS) : Prop := eI h' 5 2 = eI h 5 2 ∧ (2 ≤ (eI h 5 2).toInt → ∀ F : Int, NBQ o F h → NBQ o F h')
theorem NBR_refl (o : Nat) (h : HS) : NBR o h h := ⟨rfl, fun _ _ q => q⟩
theorem NBR_trans {o : Nat} {a b c : HS} (x : NBR o a b) (y : NBR o b c) : NBR o a c := ⟨y.1.trans x.1, fun l F q => y.2 (by rw [x.1]; exact l) F (x.2 l F q)⟩
theorem NBR_fr {o : Nat} {S : CL} {h h' : HS} (f : Fr S h h') (n1 : (0, 5, 2) ∉ S) (n2 : (1, o, 2) ∉ S) (n3 : (0, o, 5) ∉ S) : NBR o h h' := by
  refine ⟨f.1 5 2 n1, fun _ F q => ?_⟩
  unfold NBQ at *
  rw [f.2.1 o 2 n2, f.1 o 5 n3]
  exact q
theorem cp_value_same {h : HS} {z : Int32 × HS} (e : f_X7_value h = some z) : z.2 = h := by
  unfold f_X7_value f_X7_value_35 f_X7_value_36 at e
  by_cases c1 : eI h 4 3 ≤ eI h 4 4
  · rw [if_pos c1] at e; cases e; rfl
  · rw [if_neg c1] at e
    by_cases c2 : (301 : Int32) ≤ eI h 4 4
    · rw [if_pos c2] at e; cases e; rfl
    · rw [if_neg c2] at e
      obtain ⟨-, e⟩ := ob_if e
      cases e; rfl
theorem same_arg {α : Type} {x : Option α} {a b : α} (e : x = some a) (e' : x = some b) : a = b := by
  rw [e] at e'; exact Option.some.inj e'
def TYL (o : Nat) (h : HS) : Prop := ∀ w : Nat, w < 4 → ¬ eA h o 3 w = -1 → 0 ≤ (eA h o 3 w).toInt ∧ (eA h o 3 w).toInt ≤ (eA h o 4 w).toInt ∧ (eA h o 4 w).toInt ≤ (eI h o 5).toInt ∧ ty (eA h o 2) 22 ((eA h o 4 w).toInt - (eA h o 3 w).toInt).toNat (eA h o 3 w).toInt.toNat [] = some [decide (w = 3)] ∧ (2 ≤ w → ∀ i : Nat, (eA h o 3 w).toInt ≤ (i : Int) → (i : Int) < (eA h o 4 w).toInt → NBS (eA h o 2 i))
