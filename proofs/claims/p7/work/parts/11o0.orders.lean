/-! which orders a law has -/
theorem mp_orders {g : HS} {x1 : Int32} {t : Nat} (ht : (eA g 0 0 4).toInt = (t : Int)) (t4 : t < 4) (cn : (eA g 0 6 t).toInt ≤ 24) : ∀ (n : Nat) (x2 x3 : Int32) (q : Int32 × HS), f_X9_ordersOf_4 n g x1 x2 x3 = some q → 0 ≤ x3.toInt → q.2 = g ∧ ((q.1 = x2 ∧ ∀ c : Nat, x3.toInt ≤ (c : Int) → (c : Int) < (eA g 0 6 t).toInt → ¬ eA g 0 7 (24 * t + c) = x1) ∨ ∃ c : Nat, (c : Int) < (eA g 0 6 t).toInt ∧ eA g 0 7 (24 * t + c) = x1 ∧ q.1 = eA g 0 8 (24 * t + c)) := by
  have z1 : (1 : Int32).toInt = 1 := rfl
  have z24 : (24 : Int32).toInt = 24 := rfl
  have zm : (-1 : Int32).toInt = -1 := rfl
  intro n
  induction n with
  | zero => intro x2 x3 q e; cases e
  | succ n ih =>
    intro x2 x3 q e h0
    rw [f_X9_ordersOf_4_s] at e
    unfold f_X9_ordersOf_71 f_X9_ordersOf_64 at e
    rw [if_neg (gi_ne (by omega))] at e
    obtain ⟨-, e⟩ := ob_if e
    have i4 : (eA g 0 0 4).toNatClampNeg = t := by
      show (eA g 0 0 4).toInt.toNat = t
      omega
    rw [i4] at e
    by_cases c : eA g 0 6 t ≤ x3
    · rw [if_pos c] at e
      have d := gi_of_le c
      cases e
      exact ⟨rfl, Or.inl ⟨rfl, fun c q1 q2 => by omega⟩⟩
    · rw [if_neg c] at e
      have d := gi_of_nle c
      have a1 := fb_mulJ (x := 24) (y := eA g 0 0 4) (k := 24) rfl (by omega) (by omega)
      have a2 := fb_addI (x := 24 * eA g 0 0 4) (y := x3) (by omega) (by omega)
      have a3 := fb_addI (x := x3) (y := 1) (by omega) (by omega)
      have ix : (24 * eA g 0 0 4 + x3).toNatClampNeg = 24 * t + x3.toInt.toNat := by
        show (24 * eA g 0 0 4 + x3).toInt.toNat = _
        omega
      obtain ⟨-, e⟩ := ob_if e
      rw [ix] at e
      by_cases cw : eA g 0 7 (24 * t + x3.toInt.toNat) = x1
      · rw [if_pos cw] at e
        obtain ⟨-, e⟩ := ob_if e
        obtain ⟨k1, k2⟩ := ih _ (x3 + 1) q e (by omega)
        refine ⟨k1, Or.inr ?_⟩
        rcases k2 with ⟨k2, -⟩ | k2
        · exact ⟨x3.toInt.toNat, by omega, cw, k2⟩
        · exact k2
      · rw [if_neg cw] at e
        obtain ⟨k1, k2⟩ := ih _ (x3 + 1) q e (by omega)
        refine ⟨k1, ?_⟩
        rcases k2 with ⟨k2, k3⟩ | k2
        · refine Or.inl ⟨k2, fun c q1 q2 => ?_⟩
          by_cases cc : (c : Int) = x3.toInt
          · rw [show c = x3.toInt.toNat by omega]; exact cw
          · exact k3 c (by omega) q2
        · exact Or.inr k2
theorem mp_orders_no {g : HS} {x1 : Int32} {q : Int32 × HS} (e : f_X9_ordersOf g x1 = some q) (h : eA g 0 0 4 = -1) : q = (-1, g) := by
  unfold f_X9_ordersOf at e
  rw [show (8589934592 : Nat) = 8589934591 + 1 from rfl, f_X9_ordersOf_4_s] at e
  unfold f_X9_ordersOf_71 at e
  rw [if_pos h] at e
  exact (Option.some.inj e).symm
/-- the texts that stand: what both keep of them -/
def TXS (h g : HS) (n : Int) : Prop := (0 < n → TXF 9 0 h g ∧ TYL 9 h) ∧ (1 < n → TXF 10 1 h g ∧ TYL 10 h) ∧ (2 < n → TXF 11 2 h g ∧ TYL 11 h) ∧ (3 < n → TXF 12 3 h g ∧ TYL 12 h)
theorem TXF_fr {o t : Nat} {S T : CL} {h h' g g' : HS} (x : TXF o t h g) (f : Fr S h h') (k : Fr T g g') (n : ∀ y ∈ [(0, o, 1), (0, o, 5), (1, o, 0), (1, o, 2), (1, o, 3), (1, o, 4)], y ∉ S) (m : ∀ y ∈ [(1, 0, 6), (1, 0, 7), (1, 0, 8), (1, 0, 9), (1, 0, 10), (1, 0, 11), (1, 0, 12), (1, 0, 13)], y ∉ T) : TXF o t h' g' := by
  unfold TXF CLF LWF at *
  rw [f.1 o 1 (n _ (by simp)), f.1 o 5 (n _ (by simp)), f.2.1 o 0 (n _ (by simp)), f.2.1 o 2 (n _ (by simp)), f.2.1 o 3 (n _ (by simp)), f.2.1 o 4 (n _ (by simp)), k.2.1 0 6 (m _ (by decide)), k.2.1 0 7 (m _ (by decide)), k.2.1 0 8 (m _ (by decide)), k.2.1 0 9 (m _ (by decide)), k.2.1 0 10 (m _ (by decide)), k.2.1 0 11 (m _ (by decide)), k.2.1 0 12 (m _ (by decide)), k.2.1 0 13 (m _ (by decide))]
  exact x
theorem TYL_fr {o : Nat} {S : CL} {h h' : HS} (x : TYL o h) (f : Fr S h h') (n : ∀ y ∈ [(0, o, 5), (1, o, 2), (1, o, 3), (1, o, 4)], y ∉ S) : TYL o h' := by
  unfold TYL at *
  rw [f.2.1 o 2 (n _ (by simp)), f.2.1 o 3 (n _ (by simp)), f.2.1 o 4 (n _ (by simp)), f.1 o 5 (n _ (by simp))]
  exact x
abbrev KTC : CL := [(0, 9, 1), (0, 9, 5), (1, 9, 0), (1, 9, 2), (1, 9, 3), (1, 9, 4), (0, 10, 1), (0, 10, 5), (1, 10, 0), (1, 10, 2), (1, 10, 3), (1, 10, 4), (0, 11, 1), (0, 11, 5), (1, 11, 0), (1, 11, 2), (1, 11, 3), (1, 11, 4), (0, 12, 1), (0, 12, 5), (1, 12, 0), (1, 12, 2), (1, 12, 3), (1, 12, 4)]
abbrev KTM : CL := [(1, 0, 6), (1, 0, 7), (1, 0, 8), (1, 0, 9), (1, 0, 10), (1, 0, 11), (1, 0, 12), (1, 0, 13)]
theorem TXS_fr {S T : CL} {h h' g g' : HS} {n : Int} (x : TXS h g n) (f : Fr S h h') (k : Fr T g g') (hS : ∀ y ∈ KTC, y ∉ S) (hT : ∀ y ∈ KTM, y ∉ T) : TXS h' g' n := by
  refine ⟨fun q => ⟨TXF_fr (x.1 q).1 f k (fun y hy => hS y ?_) hT, TYL_fr (x.1 q).2 f (fun y hy => hS y ?_)⟩, fun q => ⟨TXF_fr (x.2.1 q).1 f k (fun y hy => hS y ?_) hT, TYL_fr (x.2.1 q).2 f (fun y hy => hS y ?_)⟩, fun q => ⟨TXF_fr (x.2.2.1 q).1 f k (fun y hy => hS y ?_) hT, TYL_fr (x.2.2.1 q).2 f (fun y hy => hS y ?_)⟩, fun q => ⟨TXF_fr (x.2.2.2 q).1 f k (fun y hy => hS y ?_) hT, TYL_fr (x.2.2.2 q).2 f (fun y hy => hS y ?_)⟩⟩
  · exact (show ∀ y ∈ [(0, 9, 1), (0, 9, 5), (1, 9, 0), (1, 9, 2), (1, 9, 3), (1, 9, 4)], y ∈ KTC by decide) y hy
  · exact (show ∀ y ∈ [(0, 9, 5), (1, 9, 2), (1, 9, 3), (1, 9, 4)], y ∈ KTC by decide) y hy
  · exact (show ∀ y ∈ [(0, 10, 1), (0, 10, 5), (1, 10, 0), (1, 10, 2), (1, 10, 3), (1, 10, 4)], y ∈ KTC by decide) y hy
  · exact (show ∀ y ∈ [(0, 10, 5), (1, 10, 2), (1, 10, 3), (1, 10, 4)], y ∈ KTC by decide) y hy
  · exact (show ∀ y ∈ [(0, 11, 1), (0, 11, 5), (1, 11, 0), (1, 11, 2), (1, 11, 3), (1, 11, 4)], y ∈ KTC by decide) y hy
  · exact (show ∀ y ∈ [(0, 11, 5), (1, 11, 2), (1, 11, 3), (1, 11, 4)], y ∈ KTC by decide) y hy
  · exact (show ∀ y ∈ [(0, 12, 1), (0, 12, 5), (1, 12, 0), (1, 12, 2), (1, 12, 3), (1, 12, 4)], y ∈ KTC by decide) y hy
  · exact (show ∀ y ∈ [(0, 12, 5), (1, 12, 2), (1, 12, 3), (1, 12, 4)], y ∈ KTC by decide) y hy
/-- the class without a law -/
theorem rule_without {h : HS} {lw : Int32} {r : Int32 × HS} (e : f_X1_rule_21 h lw = some r) : (lw = 0 → r.1 = eA h 6 1 7) ∧ (lw = 1 → r.1 = eA h 6 1 8) ∧ (¬ lw = 0 → ¬ lw = 1 → r.1 = 1) := by
  unfold f_X1_rule_21 at e
  obtain ⟨r30, h30, e30, e⟩ := ob2_some e
  cases e
  unfold f_X1_without at e30
  by_cases c0 : lw = 0
  · rw [if_pos c0] at e30
    cases e30
    refine ⟨fun _ => rfl, fun q => ?_, fun q => absurd c0 q⟩
    rw [c0] at q
    exact absurd q (by decide)
  · rw [if_neg c0] at e30
    by_cases c1 : lw = 1
    · rw [if_pos c1] at e30
      cases e30
      exact ⟨fun q => absurd q c0, fun _ => rfl, fun _ q => absurd c1 q⟩
    · rw [if_neg c1] at e30
      cases e30
      exact ⟨fun q => absurd q c0, fun q => absurd q c1, fun _ _ => rfl⟩
/-- a law of the class and of the reference: without orders, or the same answer wherever the names agree -/
def RULE (h g : HS) (lw : Int32) (r q : Int32 × HS) : Prop := (q.1 = -1 ∧ (lw = 0 → r.1 = eA h 6 1 7) ∧ (lw = 1 → r.1 = eA h 6 1 8) ∧ (¬ lw = 0 → ¬ lw = 1 → r.1 = 1)) ∨ (¬ q.1 = -1 ∧ ∀ (g' : HS) (w : Int64 × HS), f_X9_saysOf g' q.1 = some w → Fr [(1, 0, 39), (3, 0, 40)] g g' → (∀ k : Nat, k < 9 → (2 ≤ lw.toInt → k < 6) → eA h 6 1 k = eA g' 0 39 k ∧ MB (eA h 6 1 k).toInt) → SAYS lw r w)
