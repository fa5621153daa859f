/-! text 0: what the class reads and what the reference reads -/
theorem cp_addStep_0 {h h' : HS} {s : Int32} (e : f_X6_addStep_0 h s = some h') (a0 : 0 ≤ (eI h 9 5).toInt) (a1 : (eI h 9 5).toInt < 300) : h' = sI (sA h 9 2 (upd (eA h 9 2) (eI h 9 5).toInt.toNat s)) 9 5 (eI h 9 5 + 1) := by
  have z : (300 : Int32).toInt = 300 := rfl
  unfold f_X6_addStep_0 f_X6_addStep_0_32 at e
  rw [if_neg (fun c => by have := gi_of_le c; omega)] at e
  obtain ⟨-, e⟩ := ob_if e
  cases e
  rfl
theorem leaf_0 {B : Int → Int} {L : Int} {P : Nat → Int} {d : Nat} {op : Int} {h h1 h' g g1 g2 : HS} {s p v : Int32} (x : PRE B L P 9 d op h g) (k : ¬ kd h = 0) (e1 : f_X6_addStep_0 h s = some h1) (e2 : f_X7_advance h1 = some h') (e3 : f_X9_emits g p v = some g1) (e4 : f_X9_next g1 = some g2) (hc : CR s.toInt p.toInt v.toInt) : RES B L P 9 d h g h' g2 [] := by
  have z1 : (1 : Int32).toInt = 1 := rfl
  obtain ⟨t, f0, g0, -, -, wf, b, ⟨s0, s1⟩, -⟩ := x
  have ta := TT_lt t k
  have eh1 := cp_addStep_0 e1 s0 (by omega)
  subst eh1
  have fh : Fr [(1, 9, 2), (0, 9, 5)] h (sI (sA h 9 2 (upd (eA h 9 2) (eI h 9 5).toInt.toNat s)) 9 5 (eI h 9 5 + 1)) := Fr_sI (by decide) (Fr_sA (by decide) (Fr_refl _ _))
  have t1 := TT_h t fh (by decide) (by decide) (by decide) (by decide) (by decide)
  obtain ⟨⟨q1, q2⟩, eg1⟩ := mp_emits e3
  subst eg1
  have fg : Fr [(1, 0, 37), (1, 0, 38), (0, 0, 36)] g (sI (sA (sA g 0 37 (upd (eA g 0 37) (eI g 0 36).toInt.toNat p)) 0 38 (upd (eA g 0 38) (eI g 0 36).toInt.toNat v)) 0 36 (eI g 0 36 + 1)) := Fr_sI (by decide) (Fr_sA (by decide) (Fr_sA (by decide) (Fr_refl _ _)))
  obtain ⟨t2, eh, ea⟩ := TT_adv t1 k e2 fg (by decide) (by decide) (by decide) e4
  have fn := w_f_X9_next _ _ e4
  subst eh
  have a1 := fb_addI (x := eI h 9 5) (y := 1) (by omega) (by omega)
  have a2 := fb_addI (x := eI g 0 36) (y := 1) (by omega) (by omega)
  refine ⟨t2, f0, (fn.1 0 19 (by decide)).trans g0, ⟨fn.1 0 22 (by decide), fn.1 0 21 (by decide), fun i _ => by rw [fn.2.1 0 23 (by decide)]; rfl, fun i _ => by rw [fn.2.1 0 24 (by decide)]; rfl⟩, WW_nil (fn.1 0 25 (by decide)) (fn.2.1 0 26 (by decide)) (fn.2.1 0 27 (by decide)), ?_, ?_, Fr_trans (Fr_mono (by decide) fg) (Fr_mono (by decide) fn), rfl⟩
  · refine CC_same (CC_emit (h2 := sI (sA h 9 2 (upd (eA h 9 2) (eI h 9 5).toInt.toNat s)) 9 5 (eI h 9 5 + 1)) (g2 := sI (sA (sA g 0 37 (upd (eA g 0 37) (eI g 0 36).toInt.toNat p)) 0 38 (upd (eA g 0 38) (eI g 0 36).toInt.toNat v)) 0 36 (eI g 0 36 + 1)) (CC_refl s0 b) ?_ rfl ?_ rfl rfl hc) rfl rfl (fn.1 0 36 (by decide)) (fn.2.1 0 37 (by decide)) (fn.2.1 0 38 (by decide))
    · show (eI h 9 5 + 1).toInt = _; omega
    · show (eI g 0 36 + 1).toInt = _; omega
  · rw [ea]
    show (eI h 9 5 + 1).toInt - (eI h 9 5).toInt ≤ at_ h + 1 - at_ h
    omega
def OneS_0 (B : Int → Int) (L : Int) (P : Nat → Int) (d : Nat) (n : Nat) : Prop := ∀ (h h' g : HS) (N : Nat) (r : Int32 × HS) (op : Int32), G_read_0 n 2 h op 0 = some h' → PRE B L P 9 d op.toInt h g → (eI g 0 28).toInt = 1 → 1 ≤ (eI g 0 22).toInt → f_X9_text_74 N g = some r → BAD r h' g ∨ ∃ (N' m : Nat) (g1 g' : HS), f_X9_oneIsOver_0 m g1 = some g' ∧ f_X9_text_74 N' g' = some r ∧ RES B L P 9 d h g h' g1 []
def AskS_0 (B : Int → Int) (L : Int) (P : Nat → Int) (d : Nat) (n : Nat) : Prop := ∀ (h h' g : HS) (N : Nat) (r : Int32 × HS) (op : Int32), G_read_0 n 1 h op 0 = some h' → PRE B L P 9 d op.toInt h g → (eI g 0 28).toInt = 0 → 1 ≤ (eI g 0 22).toInt → f_X9_text_74 N g = some r → BAD r h' g ∨ ∃ (N' m : Nat) (g1 g' : HS), f_X9_askIsOver_0 m g1 = some g' ∧ f_X9_text_74 N' g' = some r ∧ RES B L P 9 d h g h' g1 []
def LevS_0 (B : Int → Int) (L : Int) (P : Nat → Int) (d : Nat) (n : Nat) : Prop := ∀ (l : Int32) (h h' g : HS) (N : Nat) (r : Int32 × HS) (op : Int32), G_read_0 n 0 h l op = some h' → 0 ≤ l.toInt → l.toInt ≤ 5 → PRE B L P 9 d op.toInt h g → ((l.toInt ≤ 2 ∧ (eI g 0 28).toInt = 0) ∨ (3 ≤ l.toInt ∧ (eI g 0 28).toInt = 1)) → 1 ≤ (eI g 0 22).toInt → ¬ (eA g 0 23 ((eI g 0 22).toInt.toNat - 1)).toInt = 7 → ¬ (eA g 0 23 ((eI g 0 22).toInt.toNat - 1)).toInt = 3 → STOP (eA g 0 26) (eA g 0 27) (eI g 0 22).toInt (rl l.toInt) (eI g 0 25).toInt.toNat → f_X9_text_74 N g = some r → BAD r h' g ∨ ∃ (N' : Nat) (g' : HS) (ps : List Int), f_X9_text_74 N' g' = some r ∧ RES B L P 9 d h g h' g' ps ∧ ((l.toInt ≤ 2 ∧ (eI g' 0 28).toInt = 3) ∨ (3 ≤ l.toInt ∧ (eI g' 0 28).toInt = 2)) ∧ (∀ p ∈ ps, rl l.toInt ≤ rnk p) ∧ NOP l.toInt (kd h')
/-- what a sign that was opened leaves when it is over: the frame is gone, its step is told -/
theorem over_0 {B : Int → Int} {L : Int} {P : Nat → Int} {d : Nat} {h g h1 g1 h2 g3 h' g4 : HS} {f s p : Int32} (hp : PRE B L P 9 d (eI g 0 21).toInt h g) (ea : at_ h1 = at_ h + 1) (hs : eI h1 9 5 = eI h 9 5 ∧ eA h1 9 2 = eA h 9 2 ∧ eI h1 5 1 = eI h 5 1) (i22 : eI g1 0 22 = eI g 0 22 + 1) (j22 : (eI g1 0 22).toInt = (eI g 0 22).toInt + 1) (i23 : eA g1 0 23 = upd (eA g 0 23) (eI g 0 22).toInt.toNat f) (i21 : eI g1 0 21 = eI g 0 21 + 1) (fr : Fr [(0, 0, 15), (0, 0, 16), (0, 0, 17), (0, 0, 18), (0, 0, 21), (0, 0, 22), (1, 0, 23)] g g1) (R : RES B L P 9 d h1 g1 h2 g3 []) (e1 : f_X6_addStep_0 h2 s = some h') (e2 : f_X9_emits (sI (sI g3 0 22 (eI g3 0 22 - 1)) 0 21 (eI g3 0 21 - 1)) p 0 = some g4) (hc : OPK s.toInt p.toInt) : RES B L P 9 d h g h' g4 [] := by
  have z1 : (1 : Int32).toInt = 1 := rfl
  obtain ⟨t, f0, g0, -, -, wf, b, ⟨s0, s1⟩, -⟩ := hp
  obtain ⟨r1, r2, r3, ⟨r4, r5, r6, r6'⟩, ⟨r7, r8, -⟩, r9, r10, r11⟩ := R
  have tl := TT_at r1
  have ccl := CC_left r9 hs.1 hs.2.1 (fr.1 0 36 (by decide)) (fr.2.1 0 37 (by decide)) (fr.2.1 0 38 (by decide))
  have l0 : (([] : List Int).length : Int) = 0 := rfl
  have sc1 : (eI h1 9 5).toInt = (eI h 9 5).toInt := by rw [hs.1]
  have cc3 := ccl.2.2.1
  have eh := cp_addStep_0 e1 (by omega) (by omega)
  subst eh
  obtain ⟨⟨q1, q2⟩, eg⟩ := mp_emits e2
  replace q1 : 0 ≤ (eI g3 0 36).toInt := q1
  replace q2 : (eI g3 0 36).toInt < 400 := q2
  subst eg
  have a1 := fb_addI (x := eI h2 9 5) (y := 1) (by omega) (by omega)
  have a2 := fb_addI (x := eI g3 0 36) (y := 1) (by omega) (by omega)
  have fg : Fr [(0, 0, 22), (0, 0, 21), (1, 0, 37), (1, 0, 38), (0, 0, 36)] g3 (sI (sA (sA (sI (sI g3 0 22 (eI g3 0 22 - 1)) 0 21 (eI g3 0 21 - 1)) 0 37 (upd (eA g3 0 37) (eI g3 0 36).toInt.toNat p)) 0 38 (upd (eA g3 0 38) (eI g3 0 36).toInt.toNat 0)) 0 36 (eI g3 0 36 + 1)) := Fr_sI (by decide) (Fr_sA (by decide) (Fr_sA (by decide) (Fr_sI (by decide) (Fr_sI (by decide) (Fr_refl _ _)))))
  have fh : Fr [(1, 9, 2), (0, 9, 5)] h2 (sI (sA h2 9 2 (upd (eA h2 9 2) (eI h2 9 5).toInt.toNat s)) 9 5 (eI h2 9 5 + 1)) := Fr_sI (by decide) (Fr_sA (by decide) (Fr_refl _ _))
  refine ⟨TT_g (TT_h r1 fh (by decide) (by decide) (by decide) (by decide) (by decide)) fg (by decide) (by decide) (by decide) (by decide) (by decide) (by decide), r2, r3, ⟨?_, ?_, fun i hi => ?_, fun i hi => ?_⟩, WW0 ?_ (fun i hi => ?_), ?_, ?_, Fr_trans (Fr_mono (by decide) fr) (Fr_trans r11.1 (Fr_mono (by decide) fg)), r11.2.trans hs.2.2⟩
  · show eI g3 0 22 - 1 = eI g 0 22
    rw [r4, i22, i32_ps]
  · show eI g3 0 21 - 1 = eI g 0 21
    rw [r5, i21, i32_ps]
  · show eA g3 0 23 i = eA g 0 23 i
    rw [r6 i (by omega), i23]
    unfold upd
    rw [if_neg (by omega)]
  · show eA g3 0 24 i = eA g 0 24 i
    rw [r6' i (by omega), fr.2.1 0 24 (by decide)]
  · show (eI g3 0 25).toInt = (eI g 0 25).toInt
    have : eI g1 0 25 = eI g 0 25 := fr.1 0 25 (by decide)
    rw [← this]
    omega
  · show eA g3 0 26 i = eA g 0 26 i ∧ eA g3 0 27 i = eA g 0 27 i
    have k0 : eI g1 0 25 = eI g 0 25 := fr.1 0 25 (by decide)
    have k1 := r8 i (by rw [k0]; exact hi)
    rw [k1.1, k1.2, fr.2.1 0 26 (by decide), fr.2.1 0 27 (by decide)]
    exact ⟨rfl, rfl⟩
  · refine CC_emit ccl ?_ rfl ?_ rfl rfl (Or.inr (Or.inr hc))
    · show (eI h2 9 5 + 1).toInt = _; omega
    · show (eI g3 0 36 + 1).toInt = _; omega
  · show (eI h2 9 5 + 1).toInt - (eI h 9 5).toInt ≤ at_ h2 - at_ h
    omega
