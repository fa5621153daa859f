/-! the two sides stand at the same token -/
theorem TE_fr {B : Int → Int} {L : Int} {P : Nat → Int} {S : CL} {h h' : HS} (t : TE B L h P) (f : Fr S h h') (h1 : (0, 4, 3) ∉ S) (h2 : (1, 4, 0) ∉ S) (h3 : (1, 4, 1) ∉ S) (h4 : (1, 4, 2) ∉ S) : TE B L h' P := by
  unfold TE at *
  rw [f.1 4 3 h1, f.2.1 4 0 h2, f.2.1 4 1 h3, f.2.1 4 2 h4]
  exact t
def at_ (h : HS) : Int := (eI h 4 4).toInt
def kd (h : HS) : Int := (eA h 4 0 (eI h 4 4).toInt.toNat).toInt
def vl (h : HS) : Int := (eA h 4 2 (eI h 4 4).toInt.toNat).toInt
def TR (B : Int → Int) (L : Int) (P : Nat → Int) (h g : HS) : Prop := MT B L g ∧ 0 ≤ at_ h ∧ at_ h < (eI h 4 3).toInt ∧ (eI g 0 15).toInt = P ((eI h 4 4).toInt.toNat + 1) ∧ eI g 0 16 = eA h 4 1 (eI h 4 4).toInt.toNat ∧ TK (kd h) (vl h) (eI g 0 17).toInt (eI g 0 18).toInt
def TT (B : Int → Int) (L : Int) (P : Nat → Int) (h g : HS) : Prop := L ≤ 300 ∧ TE B L h P ∧ TR B L P h g
theorem TT_h {B : Int → Int} {L : Int} {P : Nat → Int} {S : CL} {h h' g : HS} (t : TT B L P h g) (f : Fr S h h') (h0 : (0, 4, 4) ∉ S) (h1 : (0, 4, 3) ∉ S) (h2 : (1, 4, 0) ∉ S) (h3 : (1, 4, 1) ∉ S) (h4 : (1, 4, 2) ∉ S) : TT B L P h' g := by
  refine ⟨t.1, TE_fr t.2.1 f h1 h2 h3 h4, ?_⟩
  have t := t.2.2
  unfold TR at_ kd vl at *
  rw [f.1 4 4 h0, f.1 4 3 h1, f.2.1 4 0 h2, f.2.1 4 1 h3, f.2.1 4 2 h4]
  exact t
theorem TT_g {B : Int → Int} {L : Int} {P : Nat → Int} {S : CL} {h g g' : HS} (t : TT B L P h g) (f : Fr S g g') (h0 : (0, 0, 14) ∉ S) (h1 : (1, 0, 2) ∉ S) (h2 : (0, 0, 15) ∉ S) (h3 : (0, 0, 16) ∉ S) (h4 : (0, 0, 17) ∉ S) (h5 : (0, 0, 18) ∉ S) : TT B L P h g' := by
  refine ⟨t.1, t.2.1, MT_fr t.2.2.1 f h0 h1, ?_⟩
  have t := t.2.2.2
  rw [f.1 0 15 h2, f.1 0 16 h3, f.1 0 17 h4, f.1 0 18 h5]
  exact t
theorem TT_kind {B : Int → Int} {L : Int} {P : Nat → Int} {h g : HS} {z : Int32 × HS} (t : TT B L P h g) (e : f_X7_kind h = some z) : z.2 = h ∧ z.1.toInt = kd h := by
  have z301 : (301 : Int32).toInt = 301 := rfl
  obtain ⟨hL, ⟨-, -, c2, -⟩, -, a1, a2, -⟩ := t
  unfold at_ at a1 a2
  unfold f_X7_kind f_X7_kind_35 f_X7_kind_36 at e
  rw [if_neg (fun c => by have := gi_of_le c; omega), if_neg (fun c => by have := gi_of_le c; omega)] at e
  obtain ⟨-, e⟩ := ob_if e
  cases e
  exact ⟨rfl, rfl⟩
theorem TT_value {B : Int → Int} {L : Int} {P : Nat → Int} {h g : HS} {z : Int32 × HS} (t : TT B L P h g) (e : f_X7_value h = some z) : z.2 = h ∧ z.1.toInt = vl h := by
  have z301 : (301 : Int32).toInt = 301 := rfl
  obtain ⟨hL, ⟨-, -, c2, -⟩, -, a1, a2, -⟩ := t
  unfold at_ at a1 a2
  unfold f_X7_value f_X7_value_35 f_X7_value_36 at e
  rw [if_neg (fun c => by have := gi_of_le c; omega), if_neg (fun c => by have := gi_of_le c; omega)] at e
  obtain ⟨-, e⟩ := ob_if e
  cases e
  exact ⟨rfl, rfl⟩
theorem TT_start {B : Int → Int} {L : Int} {P : Nat → Int} {h g : HS} {z : Int32 × HS} (t : TT B L P h g) (e : f_X7_start h = some z) : z.2 = h ∧ z.1 = eI g 0 16 := by
  have z301 : (301 : Int32).toInt = 301 := rfl
  obtain ⟨hL, ⟨-, -, c2, -⟩, -, a1, a2, -, a4, -⟩ := t
  unfold at_ at a1 a2
  unfold f_X7_start f_X7_start_35 f_X7_start_36 at e
  rw [if_neg (fun c => by have := gi_of_le c; omega), if_neg (fun c => by have := gi_of_le c; omega)] at e
  obtain ⟨-, e⟩ := ob_if e
  cases e
  exact ⟨rfl, a4.symm⟩
theorem TT_adv {B : Int → Int} {L : Int} {P : Nat → Int} {S : CL} {h h' g g1 g' : HS} (t : TT B L P h g) (k : ¬ kd h = 0) (e : f_X7_advance h = some h') (f : Fr S g g1) (h0 : (0, 0, 14) ∉ S) (h1 : (1, 0, 2) ∉ S) (h2 : (0, 0, 15) ∉ S) (n : f_X9_next g1 = some g') : TT B L P h' g' ∧ h' = sI h 4 4 (eI h 4 4 + 1) ∧ at_ h' = at_ h + 1 := by
  have z1 : (1 : Int32).toInt = 1 := rfl
  obtain ⟨hL, te, tm, a1, a2, a3, a4, a5⟩ := t
  obtain ⟨t1, t2, t3, t4⟩ := id te
  unfold at_ at a1 a2
  unfold kd at k
  have i1 := t4 (eI h 4 4).toInt.toNat (by omega)
  have ne : ¬ (eI h 4 4).toInt = (eI h 4 3).toInt - 1 := fun q => k (i1.2.2.mpr (by omega))
  have s1 := fb_subI (x := eI h 4 3) (y := 1) (by omega) (by omega)
  have s2 := fb_addI (x := eI h 4 4) (y := 1) (by omega) (by omega)
  unfold f_X7_advance f_X7_advance_23 at e
  rw [if_neg (fun c => by have := gi_of_le c; omega)] at e
  cases e
  have i2 := t4 ((eI h 4 4).toInt.toNat + 1) (by omega)
  have en : (eI h 4 4 + 1).toInt.toNat = (eI h 4 4).toInt.toNat + 1 := by omega
  have nx := mx_next n hL (MT_fr tm f h0 h1) i2.1 (by rw [f.1 0 15 h2]; exact a3) i2.2.1
  have fm := w_f_X9_next g1 g' n
  refine ⟨⟨hL, te, MT_fr (MT_fr tm f h0 h1) fm (by decide) (by decide), ?_, ?_, ?_, ?_, ?_⟩, rfl, ?_⟩
  · show 0 ≤ (eI h 4 4 + 1).toInt; omega
  · show (eI h 4 4 + 1).toInt < (eI h 4 3).toInt; omega
  · show _ = P ((eI h 4 4 + 1).toInt.toNat + 1)
    rw [en]; exact nx.1
  · show _ = eA h 4 1 (eI h 4 4 + 1).toInt.toNat
    rw [en]; exact gi_eq nx.2.1
  · show TK (eA h 4 0 (eI h 4 4 + 1).toInt.toNat).toInt (eA h 4 2 (eI h 4 4 + 1).toInt.toNat).toInt _ _
    rw [en]; exact nx.2.2
  · show (eI h 4 4 + 1).toInt = (eI h 4 4).toInt + 1; omega
theorem TT_at {B : Int → Int} {L : Int} {P : Nat → Int} {h g : HS} (t : TT B L P h g) : 0 ≤ at_ h ∧ at_ h ≤ 300 := by
  obtain ⟨hL, ⟨-, -, t3, -⟩, -, a1, a2, -⟩ := t
  omega
theorem TT_tk {B : Int → Int} {L : Int} {P : Nat → Int} {h g : HS} (t : TT B L P h g) : TK (kd h) (vl h) (eI g 0 17).toInt (eI g 0 18).toInt := t.2.2.2.2.2.2.2
/-- the class's fail and the reference's errs at the same token -/
theorem TT_fail {B : Int → Int} {L : Int} {P : Nat → Int} {h h' g g' : HS} {w : Int32} (t : TT B L P h g) (f0 : eI h 5 0 = 0) (g0 : eI g 0 19 = 0) (e : f_X2_fail h w = some h') (n : f_X9_errs g w = some g') : h' = sI (sI h 5 0 w) 5 1 (eI g 0 16) ∧ g' = sI (sI g 0 19 w) 0 20 (eI g 0 16) := by
  unfold f_X2_fail f_X2_fail_20 at e
  rw [if_pos f0] at e
  obtain ⟨r, h2, e1, e⟩ := ob2_some e
  have f : Fr [(0, 5, 0)] h (sI h 5 0 w) := Fr_sI (by decide) (Fr_refl _ _)
  have t' := TT_h t f (by decide) (by decide) (by decide) (by decide) (by decide)
  obtain ⟨q1, q2⟩ := TT_start t' e1
  have q1 : h2 = sI h 5 0 w := q1
  have q2 : r = eI g 0 16 := q2
  subst q1
  subst q2
  cases e
  unfold f_X9_errs f_X9_errs_20 at n
  rw [if_pos g0] at n
  cases n
  exact ⟨rfl, rfl⟩
