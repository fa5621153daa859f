theorem fst_of {α β : Type} {x : Option (α × β)} {w : α × β} {v : α} (e : x = some w) (k : x.map Prod.fst = some v) : w.1 = v := by
  rw [e] at k
  exact Option.some.inj k
theorem v_X9_in (p1 p2 p3 : Int32) : ok (f_X9_in p1 p2 p3) (fun a => (a = 0 ∧ ¬ (p2.toInt ≤ p1.toInt ∧ p1.toInt ≤ p3.toInt)) ∨ (a = 1 ∧ (p2.toInt ≤ p1.toInt ∧ p1.toInt ≤ p3.toInt))) := by
  unfold f_X9_in f_X9_in_14 f_X9_in_15
  refine ok_if (fun c => ⟨0, rfl, Or.inl ⟨rfl, by have := gi_of_lt c; omega⟩⟩) (fun c => ?_)
  refine ok_if (fun d => ⟨0, rfl, Or.inl ⟨rfl, by have := gi_of_lt d; omega⟩⟩) (fun d => ?_)
  exact ⟨1, rfl, Or.inr ⟨rfl, gi_of_nlt c, gi_of_nlt d⟩⟩
theorem v_X8_isDigit (p1 : Int32) : ok (f_X8_isDigit p1) (fun a => (a = 0 ∧ ¬ (0 ≤ p1.toInt ∧ p1.toInt ≤ 9)) ∨ (a = 1 ∧ (0 ≤ p1.toInt ∧ p1.toInt ≤ 9))) := by
  have z0 : (0 : Int32).toInt = 0 := rfl
  have z9 : (9 : Int32).toInt = 9 := rfl
  unfold f_X8_isDigit f_X8_isDigit_14 f_X8_isDigit_15
  refine ok_if (fun c => ⟨0, rfl, Or.inl ⟨rfl, by have := gi_of_lt c; omega⟩⟩) (fun c => ?_)
  refine ok_if (fun d => ⟨0, rfl, Or.inl ⟨rfl, by have := gi_of_lt d; omega⟩⟩) (fun d => ?_)
  exact ⟨1, rfl, Or.inr ⟨rfl, by have := gi_of_nlt c; have := gi_of_nlt d; omega⟩⟩
def RM (p1 p2 p3 : Int32) : Prop := (1 ≤ p1.toInt ∧ p1.toInt ≤ 9) ∧ (0 ≤ p2.toInt ∧ p2.toInt ≤ 9) ∧ (0 ≤ p3.toInt ∧ p3.toInt ≤ 9)
def RG (p1 p2 : Int32) : Prop := (1 ≤ p1.toInt ∧ p1.toInt ≤ 20) ∧ (0 ≤ p2.toInt ∧ p2.toInt ≤ 99)
theorem v_X8_market (h : HS) (p1 p2 p3 : Int32) (hI : IC h) : ok (f_X8_market h p1 p2 p3) (fun a => (¬ RM p1 p2 p3 ∧ a = (-1, h)) ∨ (RM p1 p2 p3 ∧ f_X4_addMarket h p1 p2 p3 = some a)) := by
  have z0 : (0 : Int32).toInt = 0 := rfl
  have z1 : (1 : Int32).toInt = 1 := rfl
  have z9 : (9 : Int32).toInt = 9 := rfl
  unfold f_X8_market f_X8_market_25
  refine ok_if (fun c => ok_some (Or.inl ⟨fun r => by have := gi_of_lt c; have := r.1; omega, rfl⟩)) (fun c1 => ?_)
  refine ok_if (fun c => ok_some (Or.inl ⟨fun r => by have := gi_of_lt c; have := r.1; omega, rfl⟩)) (fun c2 => ?_)
  refine ok_ob1 (v_X8_isDigit p2) (fun r3 k3 => ?_)
  rcases k3 with ⟨rfl, k3⟩ | ⟨rfl, k3⟩
  · exact ok_some (Or.inl ⟨fun r => k3 r.2.1, rfl⟩)
  · refine ok_if (fun c => absurd c (by decide)) (fun _ => ?_)
    refine ok_ob1 (v_X8_isDigit p3) (fun r5 k5 => ?_)
    rcases k5 with ⟨rfl, k5⟩ | ⟨rfl, k5⟩
    · exact ok_some (Or.inl ⟨fun r => k5 r.2.2, rfl⟩)
    · refine ok_if (fun c => absurd c (by decide)) (fun _ => ?_)
      obtain ⟨z, e, k⟩ := u_X4_addMarket h p1 p2 p3 hI
      rw [e]
      exact ⟨z, rfl, Or.inr ⟨⟨by have := gi_of_nlt c1; have := gi_of_nlt c2; omega, k3, k5⟩, rfl⟩⟩
theorem v_X9_market (h : HS) (p1 p2 p3 : Int32) (hI : IM h) : ok (f_X9_market h p1 p2 p3) (fun a => (¬ (RM p1 p2 p3 ∧ ¬ eA h 0 0 0 = 4) ∧ a.1 = -1 ∧ a.2 = h) ∨ ((RM p1 p2 p3 ∧ ¬ eA h 0 0 0 = 4) ∧ a.1 = eA h 0 0 0 ∧ eA a.2 0 0 0 = eA h 0 0 0 + 1)) := by
  obtain ⟨z, e, k⟩ := u_X9_market h p1 p2 p3 hI
  refine ⟨z, e, ?_⟩
  have z0 : (0 : Int32).toInt = 0 := rfl; have z9 : (9 : Int32).toInt = 9 := rfl
  have z4 : (4 : Int32).toInt = 4 := rfl; have z10 : (10 : Int32).toInt = 10 := rfl; have z1 : (1 : Int32).toInt = 1 := rfl; have z2 : (2 : Int32).toInt = 2 := rfl
  unfold f_X9_market f_X9_market_40 at e
  obtain ⟨r1, e1, k1⟩ := v_X9_in p1 1 9
  obtain ⟨r2, e2, k2⟩ := v_X9_in p2 0 9
  obtain ⟨r3, e3, k3⟩ := v_X9_in p3 0 9
  rw [e1] at e
  rcases k1 with ⟨rfl, k1⟩ | ⟨rfl, k1⟩
  · cases e
    exact Or.inl ⟨fun r => k1 (by have := r.1.1; omega), rfl, rfl⟩
  · rw [e2] at e
    rcases k2 with ⟨rfl, k2⟩ | ⟨rfl, k2⟩
    · cases e
      exact Or.inl ⟨fun r => k2 (by have := r.1.2.1; omega), rfl, rfl⟩
    · rw [e3] at e
      rcases k3 with ⟨rfl, k3⟩ | ⟨rfl, k3⟩
      · cases e
        exact Or.inl ⟨fun r => k3 (by have := r.1.2.2; omega), rfl, rfl⟩
      · have hR : RM p1 p2 p3 := ⟨by omega, by omega, by omega⟩
        by_cases c4 : eA h 0 0 0 = 4
        · have e : (if eA h 0 0 0 = 4 then some ((-1 : Int32), h) else _) = some z := e
          rw [if_pos c4] at e
          cases e
          exact Or.inl ⟨fun r => r.2 c4, rfl, rfl⟩
        · rcases k.2.2.2 with ⟨q1, q2⟩ | q
          · exfalso
            have e : (if eA h 0 0 0 = 4 then some ((-1 : Int32), h) else _) = some z := e
            rw [if_neg c4] at e
            obtain ⟨-, e⟩ := ob_if e
            obtain ⟨-, e⟩ := ob_if e
            obtain ⟨-, e⟩ := ob_if e
            have hn := IM_n hI
            have d4 := gi_of_ne c4
            have a1 : (3 * eA h 0 0 0).toInt = 3 * (eA h 0 0 0).toInt := fb_mulJ rfl (by omega) (by omega)
            have a2 : (10 + 3 * eA h 0 0 0).toInt = 10 + 3 * (eA h 0 0 0).toInt := by rw [fb_addI (by omega) (by omega)]; omega
            have b0 : (10 + 3 * eA h 0 0 0).toNatClampNeg = 10 + 3 * (eA h 0 0 0).toInt.toNat := by rw [Int32.toNatClampNeg]; omega
            have a3 : (10 + 3 * eA h 0 0 0 + 1).toInt = 10 + 3 * (eA h 0 0 0).toInt + 1 := by rw [fb_addI (by omega) (by omega)]; omega
            have b1 : (10 + 3 * eA h 0 0 0 + 1).toNatClampNeg = 10 + 3 * (eA h 0 0 0).toInt.toNat + 1 := by rw [Int32.toNatClampNeg]; omega
            have a4 : (10 + 3 * eA h 0 0 0 + 2).toInt = 10 + 3 * (eA h 0 0 0).toInt + 2 := by rw [fb_addI (by omega) (by omega)]; omega
            have b2 : (10 + 3 * eA h 0 0 0 + 2).toNatClampNeg = 10 + 3 * (eA h 0 0 0).toInt.toNat + 2 := by rw [Int32.toNatClampNeg]; omega
            rw [b0, b1, b2] at e
            have e5 := fst_of (v := _) e rfl
            rw [q1] at e5
            have e6 : (-1 : Int32) = upd (upd (upd (upd (eA h 0 0) (10 + 3 * (eA h 0 0 0).toInt.toNat) p1) (10 + 3 * (eA h 0 0 0).toInt.toNat + 1) p2) (10 + 3 * (eA h 0 0 0).toInt.toNat + 2) p3) 0 (upd (upd (upd (eA h 0 0) (10 + 3 * (eA h 0 0 0).toInt.toNat) p1) (10 + 3 * (eA h 0 0 0).toInt.toNat + 1) p2) (10 + 3 * (eA h 0 0 0).toInt.toNat + 2) p3 0 + 1) 0 - 1 := e5
            unfold upd at e6
            rw [if_pos rfl, if_neg (by omega), if_neg (by omega), if_neg (by omega)] at e6
            have e7 := gi_of_eq e6
            have m : (-1 : Int32).toInt = -1 := rfl
            have s1 := fb_addI (x := eA h 0 0 0) (y := 1) (by omega) (by omega)
            have s2 := fb_subI (x := eA h 0 0 0 + 1) (y := 1) (by omega) (by omega)
            omega
          · exact Or.inr ⟨⟨hR, c4⟩, q.1, q.2.2⟩
theorem v_X8_goose (h : HS) (p1 p2 : Int32) (hI : IC h) : ok (f_X8_goose h p1 p2) (fun a => (¬ RG p1 p2 ∧ a = (-1, h)) ∨ (RG p1 p2 ∧ f_X4_addGoose h p1 p2 = some a)) := by
  have z0 : (0 : Int32).toInt = 0 := rfl
  have z1 : (1 : Int32).toInt = 1 := rfl
  have z20 : (20 : Int32).toInt = 20 := rfl
  have z99 : (99 : Int32).toInt = 99 := rfl
  unfold f_X8_goose f_X8_goose_21
  refine ok_if (fun c => ok_some (Or.inl ⟨fun r => by have := gi_of_lt c; have := r.1; omega, rfl⟩)) (fun c1 => ?_)
  refine ok_if (fun c => ok_some (Or.inl ⟨fun r => by have := gi_of_lt c; have := r.1; omega, rfl⟩)) (fun c2 => ?_)
  refine ok_if (fun c => ok_some (Or.inl ⟨fun r => by have := gi_of_lt c; have := r.2; omega, rfl⟩)) (fun c3 => ?_)
  refine ok_if (fun c4 => ?_) (fun c => ok_some (Or.inl ⟨fun r => by have := gi_of_nle c; have := r.2; omega, rfl⟩))
  obtain ⟨z, e, k⟩ := u_X4_addGoose h p1 p2 hI (gi_of_le c4)
  rw [e]
  exact ⟨z, rfl, Or.inr ⟨⟨by have := gi_of_nlt c1; have := gi_of_nlt c2; omega, by have := gi_of_nlt c3; have := gi_of_le c4; omega⟩, rfl⟩⟩
theorem v_X9_goose (h : HS) (p1 p2 : Int32) (hI : IM h) : ok (f_X9_goose h p1 p2) (fun a => (¬ (RG p1 p2 ∧ ¬ eA h 0 0 1 = 10) ∧ a.1 = -1 ∧ a.2 = h) ∨ ((RG p1 p2 ∧ ¬ eA h 0 0 1 = 10) ∧ eA a.2 0 0 0 = eA h 0 0 0 ∧ a.1 = eA h 0 0 1 ∧ eA a.2 0 0 1 = eA h 0 0 1 + 1)) := by
  have z0 : (0 : Int32).toInt = 0 := rfl; have z1 : (1 : Int32).toInt = 1 := rfl
  have z20 : (20 : Int32).toInt = 20 := rfl; have z99 : (99 : Int32).toInt = 99 := rfl; have z10 : (10 : Int32).toInt = 10 := rfl
  unfold f_X9_goose f_X9_goose_31
  refine ok_ob1 (v_X9_in p1 1 20) (fun r1 k1 => ?_)
  rcases k1 with ⟨rfl, k1⟩ | ⟨rfl, k1⟩
  · exact ok_some (Or.inl ⟨fun r => k1 (by have := r.1.1; omega), rfl, rfl⟩)
  refine ok_if (fun c => absurd c (by decide)) (fun _ => ?_)
  refine ok_ob1 (v_X9_in p2 0 99) (fun r3 k3 => ?_)
  rcases k3 with ⟨rfl, k3⟩ | ⟨rfl, k3⟩
  · exact ok_some (Or.inl ⟨fun r => k3 (by have := r.1.2; omega), rfl, rfl⟩)
  refine ok_if (fun c => absurd c (by decide)) (fun _ => ?_)
  refine ok_if (fun c => ok_some (Or.inl ⟨fun r => r.2 c, rfl, rfl⟩)) (fun c4 => ?_)
  have hn := IM_n hI
  have d4 := gi_of_ne c4
  refine ok_ob1 (u_X9_tellsGoose h 30 (eA h 0 0 1) p1 p2 30 hI rfl (Or.inl rfl) (by omega) (by omega)) (fun h6 k6 => ?_)
  have e1 : eA h6 0 0 1 = eA h 0 0 1 := k6.1.2.2.1
  refine ok_mono (u_X9_goose_49 p1 p2 (by rw [e1]; omega) (by omega) _ h6 0 (SW_refl k6.1.1) (by decide) (by decide) (by omega)) (fun a k => ?_)
  obtain ⟨a1, a2, a3, a4⟩ := k
  exact Or.inr ⟨⟨⟨by omega, by omega⟩, c4⟩, a2.trans k6.1.2.1, a4.trans e1, by rw [a3, e1]⟩
def Inv (h g : HS) : Prop := IC h ∧ IM g ∧ (eI h 1 4 = eA g 0 0 0 ∧ eI h 1 3 = eA g 0 0 1) ∧ (eI h 2 4 = eA g 0 1 0 ∧ eI h 2 3 = eA g 0 1 1)
def KC (h c : HS) : Prop := IC c ∧ eI c 1 4 = eI h 1 4 ∧ eI c 1 3 = eI h 1 3 ∧ eI c 2 4 = eI h 2 4 ∧ eI c 2 3 = eI h 2 3
def KM (g c : HS) : Prop := IM c ∧ eA c 0 0 0 = eA g 0 0 0 ∧ eA c 0 0 1 = eA g 0 0 1
theorem KC_of {h c : HS} (s : SC h c) : KC h c := ⟨s.1, s.2.2.1, s.2.1, s.2.2.2.2, s.2.2.2.1⟩
theorem KC_refl {h : HS} (i : IC h) : KC h h := ⟨i, rfl, rfl, rfl, rfl⟩
theorem KM_refl {g : HS} (i : IM g) : KM g g := ⟨i, rfl, rfl⟩
theorem KM_SW {g c : HS} (s : SW g c) : KM g c := ⟨s.1, s.2.1, s.2.2.1⟩
theorem KM_SM {g c : HS} (s : SM g c) : KM g c := KM_SW (SM_SW s)
theorem KM_SF {g c : HS} (s : SF g c) : KM g c := ⟨s.1, by rw [s.2], by rw [s.2]⟩
theorem KM_XQ {g c : HS} (s : XQ g c) : KM g c := s
theorem ls_keep {α : Type} {S : CL} {x y : Option (α × HS)} {P Q : α × HS → Prop} {c : Prop} {h g : HS} (i : Inv h g) (a : ok x P) (b : ok y Q) (f : pk y (fun a => Fr S g a.2)) (hf : (1, 0, 1) ∉ S) (hp : ∀ z, P z → KC h z.2) (hq : ∀ z, Q z → KM g z.2) (hc : ¬ c) : ∃ (r1 : α) (h1 : HS) (r2 : α) (g1 : HS), x = some (r1, h1) ∧ y = some (r2, g1) ∧ Inv h1 g1 ∧ (c → r1 = r2) := by
  obtain ⟨z, e1, k1⟩ := a
  obtain ⟨w, e2, k2⟩ := b
  have s := hp z k1
  have t := hq w k2
  have u := (f w e2).2.1 0 1 hf
  refine ⟨z.1, z.2, w.1, w.2, e1, e2, ⟨s.1, t.1, ⟨?_, ?_⟩, ⟨?_, ?_⟩⟩, fun h => absurd h hc⟩
  · rw [s.2.1, t.2.1]; exact i.2.2.1.1
  · rw [s.2.2.1, t.2.2]; exact i.2.2.1.2
  · rw [s.2.2.2.1, u]; exact i.2.2.2.1
  · rw [s.2.2.2.2, u]; exact i.2.2.2.2
theorem ls_market (c : Prop) : LS_market c Inv := by
  intro h g p1 p2 p3 i
  have hn := IC_n i.1
  have hm := IM_n i.2.1
  have z4 : (4 : Int32).toInt = 4 := rfl
  obtain ⟨z, e1, k1⟩ := v_X8_market h p1 p2 p3 i.1
  obtain ⟨w, e2, k2⟩ := v_X9_market g p1 p2 p3 i.2.1
  obtain ⟨w', e2', k3⟩ := u_X9_market g p1 p2 p3 i.2.1
  obtain rfl : w' = w := by rw [e2] at e2'; cases e2'; rfl
  have ec := gi_of_eq i.2.2.1.1
  rcases k1 with ⟨nr, rfl⟩ | ⟨r, k1⟩
  · rcases k2 with ⟨-, k4, k5⟩ | ⟨q, -⟩
    · refine ⟨-1, h, w'.1, w'.2, e1, e2, ?_, fun _ => k4.symm⟩
      rw [k5]; exact i
    · exact absurd q.1 nr
  · obtain ⟨z', e3, b1, b2, b3, b4, b5⟩ := u_X4_addMarket h p1 p2 p3 i.1
    obtain rfl : z' = z := by rw [k1] at e3; cases e3; rfl
    rcases b5 with ⟨c1, c2, c3⟩ | ⟨c1, c2, c3⟩
    · rcases k2 with ⟨-, k4, k5⟩ | ⟨q, -⟩
      · refine ⟨z'.1, z'.2, w'.1, w'.2, e1, e2, ?_, fun _ => by rw [c1, k4]⟩
        rw [k5]
        exact ⟨b1, i.2.1, ⟨by rw [c3]; exact i.2.2.1.1, by rw [b3]; exact i.2.2.1.2⟩, by rw [b2]; exact i.2.2.2.1, by rw [b4]; exact i.2.2.2.2⟩
      · exfalso
        have := gi_of_nlt c2
        have := gi_of_ne q.2
        omega
    · rcases k2 with ⟨q, -, -⟩ | ⟨-, k4, k5⟩
      · exact absurd ⟨r, fun e => by have := gi_of_lt c2; have := gi_of_eq e; omega⟩ q
      · refine ⟨z'.1, z'.2, w'.1, w'.2, e1, e2, ⟨b1, k3.1, ⟨?_, ?_⟩, ⟨?_, ?_⟩⟩, fun _ => by rw [c1, k4]; exact i.2.2.1.1⟩
        · rw [c3, k5, i.2.2.1.1]
        · rw [b3, k3.2.2.1]; exact i.2.2.1.2
        · rw [b2, k3.2.1]; exact i.2.2.2.1
        · rw [b4, k3.2.1]; exact i.2.2.2.2
theorem ls_goose (c : Prop) : LS_goose c Inv := by
  intro h g p1 p2 i
  have hn := IC_n i.1
  have hm := IM_n i.2.1
  have z10 : (10 : Int32).toInt = 10 := rfl
  obtain ⟨z, e1, k1⟩ := v_X8_goose h p1 p2 i.1
  obtain ⟨w, e2, k2⟩ := v_X9_goose g p1 p2 i.2.1
  obtain ⟨w', e2', k3⟩ := u_X9_goose g p1 p2 i.2.1
  obtain rfl : w' = w := by rw [e2] at e2'; cases e2'; rfl
  have u := (w_f_X9_goose g p1 p2 w' e2).2.1 0 1 (by decide)
  have ec := gi_of_eq i.2.2.1.2
  rcases k1 with ⟨nr, rfl⟩ | ⟨r, k1⟩
  · rcases k2 with ⟨-, k4, k5⟩ | ⟨q, -⟩
    · refine ⟨-1, h, w'.1, w'.2, e1, e2, ?_, fun _ => k4.symm⟩
      rw [k5]; exact i
    · exact absurd q.1 nr
  · obtain ⟨z', e3, b1, b2, b3, b4, b5⟩ := u_X4_addGoose h p1 p2 i.1 (by have := r.2; omega)
    obtain rfl : z' = z := by rw [k1] at e3; cases e3; rfl
    rcases b5 with ⟨c1, c2, c3⟩ | ⟨c1, c2, c3⟩
    · rcases k2 with ⟨-, k4, k5⟩ | ⟨q, -⟩
      · refine ⟨z'.1, z'.2, w'.1, w'.2, e1, e2, ?_, fun _ => by rw [c1, k4]⟩
        rw [k5]
        exact ⟨b1, i.2.1, ⟨by rw [b3]; exact i.2.2.1.1, by rw [c3]; exact i.2.2.1.2⟩, by rw [b2]; exact i.2.2.2.1, by rw [b4]; exact i.2.2.2.2⟩
      · exfalso
        have := gi_of_nlt c2
        have := gi_of_ne q.2
        omega
    · rcases k2 with ⟨q, -, -⟩ | ⟨-, k6, k4, k5⟩
      · exact absurd ⟨r, fun e => by have := gi_of_lt c2; have := gi_of_eq e; omega⟩ q
      · refine ⟨z'.1, z'.2, w'.1, w'.2, e1, e2, ⟨b1, k3.1, ⟨?_, ?_⟩, ⟨?_, ?_⟩⟩, fun _ => by rw [c1, k4]; exact i.2.2.1.2⟩
        · rw [b3, k6]; exact i.2.2.1.1
        · rw [c3, k5, i.2.2.1.2]
        · rw [b2, u]; exact i.2.2.2.1
        · rw [b4, u]; exact i.2.2.2.2
theorem KM_by (g : HS) (p1 : Int32) : pk (f_X9_by g p1) (fun a => eA a.2 0 0 0 = eA g 0 0 0 ∧ eA a.2 0 0 1 = eA g 0 0 1) := by
  unfold f_X9_by f_X9_by_23
  refine pk_if (fun _ => pk_some ⟨rfl, rfl⟩) (fun _ => pk_obf (fun r => ?_))
  exact pk_if (fun _ => pk_some ⟨rfl, rfl⟩) (fun _ => pk_some ⟨rfl, rfl⟩)
theorem ls_store : LS_store (2 = 1) Inv := fun h g p1 p2 i => ls_keep i (u_X8_store h p1 p2 i.1) (u_X9_store g p1 p2 i.2.1) (w_f_X9_store g p1 p2) (by decide) (fun z k => KC_of k.1) (fun z k => KM_SW k.1) (by decide)
theorem ls_seed : LS_seed (3 = 1) Inv := fun h g p1 i => ls_keep i (u_X8_seed h p1 i.1) (u_X9_seed g p1 i.2.1) (w_f_X9_seed g p1) (by decide) (fun z k => KC_of k.1) (fun z k => KM_SW k.1) (by decide)
theorem ls_fill : LS_fill (4 = 1) Inv := fun h g p1 p2 p3 i => ls_keep i (u_X8_fill h p1 p2 p3 i.1) (u_X9_fill g p1 p2 p3 i.2.1) (w_f_X9_fill g p1 p2 p3) (by decide) (fun z k => KC_of k.1) (fun z k => KM_SW k.1) (by decide)
theorem ls_send : LS_send (5 = 1) Inv := fun h g p1 p2 i => ls_keep i (u_X8_send h p1 p2 i.1) (u_X9_send g p1 p2 i.2.1) (w_f_X9_send g p1 p2) (by decide) (fun z k => KC_of k.1) (fun z k => KM_SW k.1) (by decide)
theorem ls_fatten : LS_fatten (6 = 1) Inv := fun h g p1 i => ls_keep i (u_X8_fatten h p1 i.1) (u_X9_fatten g p1 i.2.1) (w_f_X9_fatten g p1) (by decide) (fun z k => KC_of k.1) (fun z k => KM_SW k.1) (by decide)
theorem ls_pluck : LS_pluck (7 = 1) Inv := fun h g p1 i => ls_keep i (u_X8_pluck h p1 i.1) (u_X9_pluck g p1 i.2.1) (w_f_X9_pluck g p1) (by decide) (fun z k => KC_of k.1) (fun z k => KM_SW k.1) (by decide)
theorem ls_name : LS_name (8 = 1) Inv := fun h g p1 i => ls_keep i (u_X8_name h p1 i.1) (u_X9_name g p1 i.2.1) (w_f_X9_name g p1) (by decide) (fun z k => KC_of k.1) (fun z k => KM_SW k.1) (by decide)
theorem ls_pass : LS_pass (9 = 1) Inv := fun h g p1 i => ls_keep i (u_X8_pass h p1 i.1) (u_X9_pass g p1 i.2.1) (w_f_X9_pass g p1) (by decide) (fun z k => KC_of k.1) (fun z k => KM_SW k.1) (by decide)
theorem ls_feed : LS_feed (10 = 1) Inv := fun h g p1 p2 p3 p4 p5 i => ls_keep i (u_X8_feed h p1 p2 p3 p4 p5 i.1) (u_X9_feed g p1 p2 p3 p4 p5 i.2.1) (w_f_X9_feed g p1 p2 p3 p4 p5) (by decide) (fun z k => KC_of k.1) (fun z k => KM_SM k.1) (by decide)
theorem ls_end : LS_end (11 = 1) Inv := fun h g p1 i => ls_keep i (u_X8_end h p1 i.1) (u_X9_end g p1 i.2.1) (w_f_X9_end g p1) (by decide) (fun z k => KC_of k.1) (fun z k => KM_SM k.1) (by decide)
theorem ls_text : LS_text (12 = 1) Inv := fun h g  i => ls_keep i (u_X8_text h  i.1) (u_X9_text g  i.2.1) (w_f_X9_text g ) (by decide) (fun z k => KC_of k.1) (fun z k => KM_XQ k) (by decide)
theorem ls_fault : LS_fault (13 = 1) Inv := fun h g p1 i => ls_keep i (u_X8_fault h p1 i.1) (u_X9_fault g p1 i.2.1) (w_f_X9_fault g p1) (by decide) (fun z k => by rw [k.1]; exact KC_refl i.1) (fun z k => by rw [k.1]; exact KM_refl i.2.1) (by decide)
theorem ls_by : LS_by (14 = 1) Inv := fun h g p1 i => ls_keep i (u_X8_by h p1 i.1) (⟨_, (u_X9_by g p1 i.2.1).choose_spec.1, ⟨(u_X9_by g p1 i.2.1).choose_spec.2, KM_by g p1 _ (u_X9_by g p1 i.2.1).choose_spec.1⟩⟩ : ok (f_X9_by g p1) (fun a => KM g a.2)) (w_f_X9_by g p1) (by decide) (fun z k => KC_of k.1) (fun z k => k) (by decide)
theorem ls_played : LS_played (15 = 1) Inv := fun h g p1 i => ls_keep i (u_X8_played h p1 i.1) (u_X9_played g p1 i.2.1) (w_f_X9_played g p1) (by decide) (fun z k => KC_of k.1) (fun z k => KM_SW k.1) (by decide)
theorem ls_undo : LS_undo (16 = 1) Inv := fun h g  i => ls_keep i (u_X8_undo h  i.1) (u_X9_undo g  i.2.1) (w_f_X9_undo g ) (by decide) (fun z k => KC_of k.1) (fun z k => KM_SW k.1) (by decide)
theorem ls_of : LS_of (17 = 1) Inv := fun h g p1 p2 i => ls_keep i (u_X8_of h p1 p2 i.1) (u_X9_of g p1 p2 i.2.1) (w_f_X9_of g p1 p2) (by decide) (fun z k => KC_of k.1) (fun z k => KM_SM k.1) (by decide)
theorem ls_ink : LS_ink (18 = 1) Inv := fun h g p1 p2 p3 i => ls_keep i (u_X8_ink h p1 p2 p3 i.1) (u_X9_ink g p1 p2 p3 i.2.1) (w_f_X9_ink g p1 p2 p3) (by decide) (fun z k => KC_of k.1) (fun z k => KM_SM k.1) (by decide)
theorem ls_known : LS_known (19 = 1) Inv := fun h g p1 p2 i => ls_keep i (u_X8_known h p1 p2 i.1) (u_X9_known g p1 p2 i.2.1) (w_f_X9_known g p1 p2) (by decide) (fun z k => KC_of k.1) (fun z k => KM_SM k.1) (by decide)
theorem ls_led : LS_led (20 = 1) Inv := fun h g p1 p2 i => ls_keep i (u_X8_led h p1 p2 i.1) (u_X9_led g p1 p2 i.2.1) (w_f_X9_led g p1 p2) (by decide) (fun z k => KC_of k.1) (fun z k => KM_SM k.1) (by decide)
theorem ls_answer : LS_answer (21 = 1) Inv := fun h g p1 i => ls_keep i (u_X8_answer h p1 i.1) (u_X9_answer g p1 i.2.1) (w_f_X9_answer g p1) (by decide) (fun z k => KC_of k.1) (fun z k => KM_SM k.1) (by decide)
theorem ls_plucks : LS_plucks (22 = 1) Inv := fun h g p1 i => ls_keep i (u_X8_plucks h p1 i.1) (u_X9_plucks g p1 i.2.1) (w_f_X9_plucks g p1) (by decide) (fun z k => KC_of k.1) (fun z k => KM_SM k.1) (by decide)
theorem ls_odds : LS_odds (23 = 1) Inv := fun h g p1 p2 p3 i => ls_keep i (u_X8_odds h p1 p2 p3 i.1) (u_X9_odds g p1 p2 p3 i.2.1) (w_f_X9_odds g p1 p2 p3) (by decide) (fun z k => KC_of k.1) (fun z k => KM_SM k.1) (by decide)
theorem ls_plan : LS_plan (24 = 1) Inv := fun h g p1 p2 p3 i => ls_keep i (u_X8_plan h p1 p2 p3 i.1) (u_X9_plan g p1 p2 p3 i.2.1) (w_f_X9_plan g p1 p2 p3) (by decide) (fun z k => KC_of k.1) (fun z k => KM_SF k) (by decide)
theorem ls_holds : LS_holds (25 = 1) Inv := fun h g  i => ls_keep i (u_X8_holds h  i.1) (u_X9_holds g  i.2.1) (w_f_X9_holds g ) (by decide) (fun z k => by rw [k.1]; exact KC_refl i.1) (fun z k => by rw [k.1]; exact KM_refl i.2.1) (by decide)
theorem ls_image : LS_image (26 = 1) Inv := by
  intro h g i
  obtain ⟨z, e1, k1⟩ := u_X8_image h i.1
  obtain ⟨w, e2, k2⟩ := u_X9_image g i.2.1
  refine ⟨z.1, z.2, w.1, w.2, e1, e2, ?_, fun h => absurd h (by decide)⟩
  have e3 : some _ = some z := e1
  cases e3
  unfold f_X9_image at e2
  obtain ⟨b, e4, e5⟩ := ob1_some e2
  obtain ⟨b', e6, c1, c2, c3⟩ := u_X9_copies_1 g i.2.1.1 i.2.1.2.2.2.1 i.2.1.2.2.2.2 i.2.1.2.1
  obtain rfl : b' = b := by rw [e4] at e6; cases e6; rfl
  cases e5
  refine ⟨k1, k2, ?_⟩
  refine ⟨⟨?_, ?_⟩, ?_, ?_⟩
  · show eI h 1 4 = eA b' 0 0 0; rw [c2]; exact i.2.2.1.1
  · show eI h 1 3 = eA b' 0 0 1; rw [c2]; exact i.2.2.1.2
  · show eI h 1 4 = eA b' 0 1 0; rw [c3 0 (by decide)]; exact i.2.2.1.1
  · show eI h 1 3 = eA b' 0 1 1; rw [c3 1 (by decide)]; exact i.2.2.1.2
theorem ls_back : LS_back (27 = 1) Inv := by
  intro h g i
  obtain ⟨z, e1, k1⟩ := u_X8_back h i.1
  obtain ⟨w, e2, k2⟩ := u_X9_back g i.2.1
  refine ⟨z.1, z.2, w.1, w.2, e1, e2, ?_, fun h => absurd h (by decide)⟩
  have e3 : some _ = some z := e1
  cases e3
  unfold f_X9_back at e2
  obtain ⟨b, e4, e5⟩ := ob1_some e2
  obtain ⟨b', e6, c1, c2, c3⟩ := u_X9_copies_0 g i.2.1
  obtain rfl : b' = b := by rw [e4] at e6; cases e6; rfl
  cases e5
  refine ⟨k1, k2, ?_⟩
  refine ⟨⟨?_, ?_⟩, ?_, ?_⟩
  · show eI h 2 4 = eA b' 0 0 0; rw [c3 0 (by decide)]; exact i.2.2.2.1
  · show eI h 2 3 = eA b' 0 0 1; rw [c3 1 (by decide)]; exact i.2.2.2.2
  · show eI h 2 4 = eA b' 0 1 0; rw [c2]; exact i.2.2.2.1
  · show eI h 2 3 = eA b' 0 1 1; rw [c2]; exact i.2.2.2.2
theorem ls_about : LS_about (28 = 1) Inv := fun h g p1 i => ls_keep i (u_X8_about h p1 i.1) (u_X9_about g p1 i.2.1) (w_f_X9_about g p1) (by decide) (fun z k => by rw [k.1]; exact KC_refl i.1) (fun z k => by rw [k.1]; exact KM_refl i.2.1) (by decide)
theorem law_step : LawStep (fun k => k = 1) Inv := ⟨ls_market _, ls_goose _, ls_store, ls_seed, ls_fill, ls_send, ls_fatten, ls_pluck, ls_name, ls_pass, ls_feed, ls_end, ls_text, ls_fault, ls_by, ls_played, ls_undo, ls_of, ls_ink, ls_known, ls_led, ls_answer, ls_plucks, ls_odds, ls_plan, ls_holds, ls_image, ls_back, ls_about⟩
