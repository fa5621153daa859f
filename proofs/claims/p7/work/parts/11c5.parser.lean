/-! clauses that do something -/
theorem u_errs2 {h : HS} (p : Int32) (hp : 0 < p.toInt) (h0 : 0 ≤ (eI h 0 19).toInt) : ok (f_X9_errs h p) (fun a => (∀ k : Nat, ¬ k = 19 → ¬ k = 20 → eI a 0 k = eI h 0 k) ∧ (∀ k : Nat, eA a 0 k = eA h 0 k) ∧ 0 < (eI a 0 19).toInt) := by
  unfold f_X9_errs f_X9_errs_20
  refine ok_if (fun c => ok_some ⟨fun k h1 h2 => (eI_ne h2).trans (eI_ne h1), fun k => rfl, hp⟩) (fun c => ok_some ⟨fun k _ _ => rfl, fun k => rfl, ?_⟩)
  have := gi_of_ne c
  have z0 : (0 : Int32).toInt = 0 := rfl
  omega
def D4 (c : HS) : Prop := (eI c 0 22).toInt = 0 ∧ (eI c 0 21).toInt = 0 ∧ (eI c 0 25).toInt = 0 ∧ HK c 0 ∧ 4 ≤ (eA c 0 31 (eI c 0 29).toInt.toNat).toInt
def DD (T : Int) (h c : HS) : Prop := PF h c ∧ (0 ≤ (eI c 0 29).toInt ∧ (eI c 0 29).toInt ≤ 23) ∧ (0 < (eI c 0 19).toInt ∨ (HB c ∧ D4 c ∧ T + 1 ≤ (eI c 0 16).toInt))
theorem DD_w {T : Int} {h c : HS} (d : DD T h c) : 0 ≤ (eI c 0 19).toInt := by
  rcases d.2.2 with q | q
  · omega
  · rw [q.1.1]; decide
theorem DD_err {T : Int} {h c : HS} (d : DD T h c) (p : Int32) (hp : 0 < p.toInt) : ok (f_X9_errs c p) (fun a => DD T h a) := by
  refine ok_mono (u_errs2 p hp (DD_w d)) (fun a k => ⟨⟨fun j hj => (k.1 j (by omega) (by omega)).trans (d.1.1 j hj), fun j hj => (k.2.1 j).trans (d.1.2 j hj)⟩, ?_, Or.inl k.2.2⟩)
  rw [k.1 29 (by omega) (by omega)]; exact d.2.1
theorem DD_next {T : Int} {h c : HS} (d : DD T h c) (w : eI c 0 19 = 0) : ok (f_X9_next c) (fun a => DD T h a) := by
  rcases d.2.2 with q | ⟨b, d4, t⟩
  · rw [w] at q; exact absurd q (by decide)
  refine ok_mono (u_nextB c b) (fun a k => ⟨PF_NX d.1 k.1, ?_, Or.inr ⟨k.2.1, ⟨?_, ?_, ?_, ?_, ?_⟩, ?_⟩⟩)
  · rw [k.1.1 29 (by omega)]; exact d.2.1
  · rw [k.1.1 22 (by omega)]; exact d4.1
  · rw [k.1.1 21 (by omega)]; exact d4.2.1
  · rw [k.1.1 25 (by omega)]; exact d4.2.2.1
  · have ⟨_, m2, m3, m4, _⟩ := k.2.1.2.1
    have ⟨l1, l2, _⟩ := b.2.1
    have := k.2.2
    exact HK_NX d4.2.2.2.1 k.1 (by omega) (by omega)
  · rw [k.1.1 29 (by omega), k.1.2 31]; exact d4.2.2.2.2
  · have ⟨l1, l2, _⟩ := b.2.1
    have := k.2.2
    omega
theorem DD_row {T : Int} {h c : HS} {a : Nat} {x : Nat → Int32} (d : DD T h c) (ha : 33 ≤ a ∧ a ≤ 35) : DD T h (sA c 0 a x) := by
  refine ⟨PF_sA d.1 (by omega), d.2.1, ?_⟩
  rcases d.2.2 with q | ⟨b, d4, t⟩
  · exact Or.inl q
  · refine Or.inr ⟨b, ⟨d4.1, d4.2.1, d4.2.2.1, ?_, ?_⟩, t⟩
    · obtain ⟨k1, k2, k3, k4, k5, k6, k7⟩ := d4.2.2.2.1
      show K0 (eI c 0 16).toInt (eI c 0 25).toInt (eI c 0 36).toInt (eI c 0 29).toInt (eI c 0 22).toInt 0 _ _ _ _ _ _ _
      rw [eA_ne (h := c) (a := a) (x := x) (k := 23) (by omega), eA_ne (h := c) (a := a) (x := x) (k := 26) (by omega), eA_ne (h := c) (a := a) (x := x) (k := 27) (by omega), eA_ne (h := c) (a := a) (x := x) (k := 31) (by omega), eA_ne (h := c) (a := a) (x := x) (k := 32) (by omega), eA_ne (h := c) (a := a) (x := x) (k := 37) (by omega), eA_ne (h := c) (a := a) (x := x) (k := 38) (by omega)]
      exact ⟨k1, k2, k3, k4, k5, k6, k7⟩
    · rw [eA_ne (h := c) (a := a) (x := x) (k := 31) (by omega)]; exact d4.2.2.2.2
theorem u_number {T : Int} {h c : HS} (d : DD T h c) (p q : Int32) : ok (f_X9_number c p q) (fun a => DD T h a.2) := by
  unfold f_X9_number f_X9_number_15
  have z0 : (0 : Int32).toInt = 0 := rfl
  refine ok_if (fun c1 => ok_ob1 (DD_err d 1 (by decide)) (fun a ka => ok_some ka)) (fun c1 => ?_)
  have d1 := gi_of_nlt c1
  have w : eI c 0 19 = 0 := gi_eq (by have := DD_w d; omega)
  refine ok_if (fun c2 => ?_) (fun c2 => ok_ob1 (DD_err d 1 (by decide)) (fun a ka => ok_some ka))
  refine ok_ob1 (u_X9_in _ p q) (fun r k => ok_if (fun _ => ok_ob1 (DD_err d 2 (by decide)) (fun a ka => ok_some ka)) (fun _ => ?_))
  exact ok_ob1 (DD_next d w) (fun a ka => ok_some ka)
theorem u_wants {T : Int} {h c : HS} (d : DD T h c) (p : Int32) : ok (f_X9_wants c p) (fun a => DD T h a) := by
  have w20 : ∀ c : HS, DD T h c → ok (f_X9_wants_20 c) (fun a => DD T h a) := by
    intro c d
    unfold f_X9_wants_20 f_X9_wants_31
    exact ok_if (fun w => ok_ob1 (DD_next d w) (fun a ka => ok_some ka)) (fun _ => ok_some d)
  unfold f_X9_wants
  refine ok_if (fun w => ?_) (fun _ => w20 c d)
  refine ok_ob2 (u_X9_isWord c p) (fun r2 h2 k2 => ?_)
  have e2 : c = h2 := k2.1.symm
  subst e2
  exact ok_if (fun _ => ok_ob1 (DD_err d 1 (by decide)) (fun a ka => w20 a ka)) (fun _ => w20 c d)
theorem u_wasTold_4 (h : HS) (w : (eI h 0 29).toInt ≤ 24) (x1 : Int32) : ∀ (n : Nat) (x2 x3 : Int32), (x2 = 0 ∨ x2 = 1) → 0 ≤ x3.toInt → 0 < n → (24 - x3.toInt : Int) < n → ok (f_X9_wasTold_4 n h x1 x2 x3) (fun a => a.2 = h) := by
  intro n
  induction n with
  | zero => intro x2 x3 hx i0 hn hm; exact absurd hn (by decide)
  | succ n ih =>
    intro x2 x3 hx i0 hn hm
    rw [f_X9_wasTold_4_s]
    unfold f_X9_wasTold_26 f_X9_wasTold_31
    refine ok_if (fun c => ok_chk hx (ok_some rfl)) (fun c => ?_)
    have d := gi_of_nle c
    have z1 : (1 : Int32).toInt = 1 := rfl
    have a := fb_addI (x := x3) (y := 1) (by omega) (by omega)
    refine ok_if (fun _ => ok_chk (by omega) (ok_if (fun _ => ?_) (fun _ => ?_))) (fun _ => ?_)
    · exact ih 1 (x3 + 1) (Or.inr rfl) (by omega) (by omega) (by omega)
    · exact ih 0 (x3 + 1) (Or.inl rfl) (by omega) (by omega) (by omega)
    · exact ih 1 (x3 + 1) (Or.inr rfl) (by omega) (by omega) (by omega)
theorem u_wasTold (h : HS) (w : (eI h 0 29).toInt ≤ 24) (x1 : Int32) : ok (f_X9_wasTold h x1) (fun a => a.2 = h) := by
  unfold f_X9_wasTold
  exact u_wasTold_4 h w x1 _ 0 0 (Or.inl rfl) (by decide) (by decide) (by have : (0 : Int32).toInt = 0 := rfl; omega)
def CQ (T : Int) (h a : HS) : Prop := PF h a ∧ (0 < (eI a 0 19).toInt ∨ (PI a ∧ T + 1 ≤ (eI a 0 16).toInt))
theorem u_clause_322 {T : Int} {h c : HS} (d : DD T h c) (g : 0 < (eI c 0 19).toInt ∨ ¬ eI c 0 17 = 0) : ok (f_X9_clause_322 c) (fun a => CQ T h a) := by
  unfold f_X9_clause_322 f_X9_clause_333
  refine ok_if (fun w => ?_) (fun w => ok_some ⟨d.1, Or.inl ?_⟩)
  · rcases d.2.2 with q | ⟨b, d4, t⟩
    · rw [w] at q; exact absurd q (by decide)
    have s : ¬ eI c 0 17 = 0 := by
      rcases g with g | g
      · rw [w] at g; exact absurd g (by decide)
      · exact g
    unfold f_X9_clauseIsOver
    rw [works_zero (h := c) (x1 := 1) d4.2.2.1]
    show ok (ob1 (ob1 (f_X9_emits (sI c 0 22 0) 408 0) _) _) _
    have k2 : HK (sI c 0 22 0) 0 := by
      obtain ⟨q1, q2, q3, q4, q5, q6, q7⟩ := d4.2.2.2.1
      show K0 (eI c 0 16).toInt (eI c 0 25).toInt (eI c 0 36).toInt (eI c 0 29).toInt (0 : Int32).toInt 0 (eA c 0 23) (eA c 0 26) (eA c 0 27) (eA c 0 31) (eA c 0 32) (eA c 0 37) (eA c 0 38)
      have w0 := d4.2.2.1
      refine ⟨q1, fun i hi => absurd hi (by omega), q3, q4, q5, q6, by decide⟩
    refine ok_ob1 (over_tail (h := h) (c := sI c 0 22 0) (PF_sI d.1 (by omega)) b s k2 d4.2.2.1 rfl d4.2.1 d.2.1.2 (Or.inl d4.2.2.2.2)) (fun a ka => ok_some ⟨ka.1, Or.inr ⟨ka.2.1, ?_⟩⟩)
    have : (eI c 0 16).toInt + 1 ≤ (eI a 0 16).toInt := ka.2.2
    omega
  · have := gi_of_ne w; have := DD_w d; have z0 : (0 : Int32).toInt = 0 := rfl; omega
theorem u_clause_301 {T : Int} {h c : HS} (d : DD T h c) : ok (f_X9_clause_301 c) (fun a => CQ T h a) := by
  unfold f_X9_clause_301
  refine ok_if (fun w => ?_) (fun w => u_clause_322 d (Or.inl ?_))
  · refine ok_ob2 (u_X9_isSign c 59) (fun r2 h2 k2 => ?_)
    have e2 : c = h2 := k2.1.symm
    subst e2
    refine ok_if (fun _ => ?_) (fun c2 => u_clause_322 d (Or.inr (by rw [(k2.2.2 c2).1]; decide)))
    refine ok_ob1 (u_errs2 1 (by decide) (DD_w d)) (fun a k => ?_)
    refine u_clause_322 (c := a) ⟨⟨fun j hj => (k.1 j (by omega) (by omega)).trans (d.1.1 j hj), fun j hj => (k.2.1 j).trans (d.1.2 j hj)⟩, ?_, Or.inl k.2.2⟩ (Or.inl k.2.2)
    rw [k.1 29 (by omega) (by omega)]; exact d.2.1
  · have := gi_of_ne w; have := DD_w d; have z0 : (0 : Int32).toInt = 0 := rfl; omega
theorem u_clause_218 {T : Int} {h c : HS} (d : DD T h c) (y0 y1 : Int32) (hy : 0 ≤ y1.toInt ∧ y1.toInt < 24) : ok (f_X9_clause_218 c y0 y1) (fun a => CQ T h a) := by
  unfold f_X9_clause_218
  refine ok_chk hy ?_
  have d1 := DD_row (x := upd (eA c 0 33) y1.toNatClampNeg y0) d (a := 33) (by omega)
  refine ok_if (fun _ => ?_) (fun _ => ok_if (fun _ => ?_) (fun _ => u_clause_301 d1))
  · refine ok_ob1 (u_wants d1 8) (fun h28 k28 => ?_)
    refine ok_ob2 (u_number k28 0 5) (fun r29 h29 k29 => ?_)
    refine ok_chk (by have := k28.2.1; omega) ?_
    refine ok_ob1 (u_wants (DD_row (a := 34) (show DD T h h29 from k29) (by omega)) 17) (fun h31 k31 => ?_)
    refine ok_ob2 (u_number k31 0 2) (fun r32 h32 k32 => ?_)
    refine ok_chk (by have := k31.2.1; omega) ?_
    exact u_clause_301 (DD_row (a := 35) (show DD T h h32 from k32) (by omega))
  · refine ok_ob1 (u_wants d1 9) (fun h25 k25 => ?_)
    refine ok_ob2 (u_number k25 0 3) (fun r26 h26 k26 => ?_)
    refine ok_chk (by have := k25.2.1; omega) ?_
    exact u_clause_301 (DD_row (a := 34) (show DD T h h26 from k26) (by omega))
theorem PO_nil (o v : Nat → Int32) (p : Nat) : PO o v p 0 0 := ⟨fun _ => 0, rfl, rfl, fun j hj => absurd hj (by omega)⟩
theorem u_clause_73 (c : HS) (b : HB c) (s4 : eI c 0 28 = 4) (p : P4 c) (n23 : (eI c 0 29).toInt ≤ 23) (hs : ¬ eI c 0 17 = 0) : ok (f_X9_clause_73 c) (fun a => CQ (eI c 0 16).toInt c a) := by
  unfold f_X9_clause_73
  have nb := b.2.2.2
  obtain ⟨p1, p2, p3, k⟩ := p
  have ck : 0 ≤ (eI c 0 29).toInt ∧ (eI c 0 29).toInt < 24 := by omega
  refine ok_if (fun _ => ?_) (fun w => absurd (by rw [b.1]; decide) w)
  refine ok_chk ck (ok_chk ck (ok_chk ck (ok_chk ck (ok_chk ck ?_))))
  have b29 : (eI c 0 29).toNatClampNeg = (eI c 0 29).toInt.toNat := by rw [Int32.toNatClampNeg]
  rw [b29]
  have kn := k.2.2.1
  have k2 : HK (sA (sA (sA (sA (sA c 0 31 (upd (eA c 0 31) (eI c 0 29).toInt.toNat (eI c 0 30))) 0 32 (upd (eA c 0 32) (eI c 0 29).toInt.toNat (eI c 0 36))) 0 33 (upd (eA c 0 33) (eI c 0 29).toInt.toNat (-1))) 0 34 (upd (eA c 0 34) (eI c 0 29).toInt.toNat (-1))) 0 35 (upd (eA c 0 35) (eI c 0 29).toInt.toNat (-1))) 0 := by
    obtain ⟨q1, q2, q3, q4, q5, q6, q7⟩ := k
    show K0 (eI c 0 16).toInt (eI c 0 25).toInt (eI c 0 36).toInt (eI c 0 29).toInt (eI c 0 22).toInt 0 (eA c 0 23) (eA c 0 26) (eA c 0 27) (upd (eA c 0 31) (eI c 0 29).toInt.toNat (eI c 0 30)) (upd (eA c 0 32) (eI c 0 29).toInt.toNat (eI c 0 36)) (eA c 0 37) (eA c 0 38)
    refine ⟨q1, q2, q3, q4, q5, ?_, q7⟩
    intro j hj
    rw [upd_no (by omega), upd_no (by omega)]
    exact q6 j hj
  have b2 : HB (sA (sA (sA (sA (sA c 0 31 (upd (eA c 0 31) (eI c 0 29).toInt.toNat (eI c 0 30))) 0 32 (upd (eA c 0 32) (eI c 0 29).toInt.toNat (eI c 0 36))) 0 33 (upd (eA c 0 33) (eI c 0 29).toInt.toNat (-1))) 0 34 (upd (eA c 0 34) (eI c 0 29).toInt.toNat (-1))) 0 35 (upd (eA c 0 35) (eI c 0 29).toInt.toNat (-1))) := b
  refine ok_ob1 (u_nextB _ b2) (fun a ka => ?_)
  have nx := HK_next k2 b2 ka.1 ka.2.1 ka.2.2 (show ¬ eI c 0 17 = 0 from hs)
  have t1 : (eI c 0 16).toInt + 1 ≤ (eI a 0 16).toInt := nx.2
  have pf : PF c a := PF_NX (PF_sA (PF_sA (PF_sA (PF_sA (PF_sA (PF_refl c) (by omega)) (by omega)) (by omega)) (by omega)) (by omega)) ka.1
  have f22 : eI a 0 22 = eI c 0 22 := ka.1.1 22 (by omega)
  have f21 : eI a 0 21 = eI c 0 21 := ka.1.1 21 (by omega)
  have f25 : eI a 0 25 = eI c 0 25 := ka.1.1 25 (by omega)
  have f29 : eI a 0 29 = eI c 0 29 := ka.1.1 29 (by omega)
  have f30 : eI a 0 30 = eI c 0 30 := ka.1.1 30 (by omega)
  have f36 : eI a 0 36 = eI c 0 36 := ka.1.1 36 (by omega)
  have f31 : eA a 0 31 = upd (eA c 0 31) (eI c 0 29).toInt.toNat (eI c 0 30) := ka.1.2 31
  have f32 : eA a 0 32 = upd (eA c 0 32) (eI c 0 29).toInt.toNat (eI c 0 36) := ka.1.2 32
  have ba := ka.2.1
  have k0 : HK a 0 := by
    obtain ⟨y1, y2, y3, y4, y5, y6, y7⟩ := nx.1
    exact ⟨y1, y2, y3, by omega, y5, y6, y7⟩
  have z3 : (3 : Int32).toInt = 3 := rfl; have z1 : (1 : Int32).toInt = 1 := rfl
  refine ok_if (fun c3 => ?_) (fun c3 => ?_)
  · have d3 := gi_of_lt c3
    have dd : DD (eI c 0 16).toInt c a := by
      refine ⟨pf, by rw [f29]; omega, Or.inr ⟨ba, ⟨by rw [f22]; exact p1, by rw [f21]; exact p2, by rw [f25]; exact p3, k0, ?_⟩, t1⟩⟩
      rw [f29, f31, upd_at, ← f30]; omega
    have hy : 0 ≤ (eI a 0 29).toInt ∧ (eI a 0 29).toInt < 24 := by rw [f29]; omega
    refine ok_if (fun _ => ?_) (fun _ => ?_)
    · exact ok_ob2 (u_number dd 1 99) (fun r h2 k2 => u_clause_218 (show DD _ c h2 from k2) r _ hy)
    · exact ok_ob2 (u_number dd 0 9) (fun r h2 k2 => u_clause_218 (show DD _ c h2 from k2) r _ hy)
  · have f0 : (eI a 0 22).toInt = 0 := by rw [f22]; exact p1
    have cu : ∀ f : Int32, HC (OF a f) 0 := by
      intro f
      show CUR (eI a 0 36).toInt ((eI a 0 25).toInt + 0) (eA a 0 32 (eI a 0 29).toInt.toNat).toInt (eA a 0 37) (eA a 0 38)
      rw [f29, f32, upd_at, ← f36, f25, p3]
      refine ⟨nx.1.2.2.1, by omega, ?_⟩
      rw [Int.sub_self]
      exact PO_nil _ _ _
    have en := of_no (h := a) (by omega) (by omega)
    have go : ∀ f : Int32, (f = 2 ∧ eI a 0 30 = 3) ∨ (f = 1 ∧ ¬ eI a 0 30 = 3) → ok (f_X9_clause_163 a f) (fun x => CQ (eI c 0 16).toInt c x) := by
      intro f hf
      unfold f_X9_clause_163 f_X9_clause_180
      rw [of_eq (h := a) (f := f) (by omega) (by omega)]
      show ok (if eI a 0 30 = 3 then some (sI (OF a f) 0 28 0) else some (sI (OF a f) 0 28 1)) _
      have hk := HK_OF (f := f) k0 (by omega) (by omega)
      have o0 : (eI a 0 21).toInt = 0 := by rw [f21]; exact p2
      rcases hf with ⟨hf, e3⟩ | ⟨hf, e3⟩
      · rw [if_pos e3]
        subst hf
        refine ok_some ⟨PF_sI (PF_OF pf) (by omega), Or.inr ⟨⟨⟨ba.1, ba.2.1, ba.2.2.1, ba.2.2.2⟩, Or.inl ⟨rfl, ?_, ?_, cu 2, ?_⟩⟩, t1⟩⟩
        · show NOTS (eI a 0 22 + 1).toInt (eI a 0 21).toInt (upd (eA a 0 23) (eI a 0 22).toInt.toNat 2)
          rw [en, f0]
          exact ⟨by omega, by omega, upd_at, fun i h1 h2 => absurd h2 (by omega)⟩
        · show HK (OF a 2) (eI a 0 21).toInt
          rw [o0]; exact hk
        · show (eI a 0 29).toInt ≤ 23
          rw [f29]; exact n23
      · rw [if_neg e3]
        subst hf
        refine ok_some ⟨PF_sI (PF_OF pf) (by omega), Or.inr ⟨⟨⟨ba.1, ba.2.1, ba.2.2.1, ba.2.2.2⟩, Or.inr (Or.inl ⟨rfl, 0, ?_, ?_, cu 1, ?_⟩)⟩, t1⟩⟩
        · show OPS (eI a 0 22 + 1).toInt (eI a 0 21).toInt 0 (upd (eA a 0 23) (eI a 0 22).toInt.toNat 1) (eA a 0 24)
          rw [en, f0]
          exact ⟨0, by omega, fun i h1 h2 => absurd h2 (by omega), Or.inl ⟨rfl, upd_at, by omega, rfl⟩⟩
        · show HK (OF a 1) ((eI a 0 21).toInt + 0)
          rw [o0]; exact hk
        · show (eI a 0 29).toInt ≤ 23
          rw [f29]; exact n23
    exact ok_if (fun e => go 2 (Or.inl ⟨rfl, e⟩)) (fun e => go 1 (Or.inr ⟨rfl, e⟩))
theorem clause_73_err {c : HS} (w : 0 < (eI c 0 19).toInt) : f_X9_clause_73 c = some c := by
  unfold f_X9_clause_73
  rw [if_neg (gi_nle (by have : (0 : Int32).toInt = 0 := rfl; omega))]
theorem u_clause (h : HS) (b : HB h) (s4 : eI h 0 28 = 4) (p : P4 h) : ok (f_X9_clause h) (fun a => PQ h a) := by
  unfold f_X9_clause f_X9_clause_17
  have er : ok (ob1 (f_X9_errs h 1) (fun h_7 => some h_7)) (fun a => PQ h a) := ok_ob1 (err_ok 1 (by decide) b) (fun a ka => ok_some ka)
  refine ok_if (fun c1 => ok_if (fun c2 => ?_) (fun _ => er)) (fun _ => er)
  have b0 : HB (sI h 0 30 (eI h 0 18)) := b
  have p0 : P4 (sI h 0 30 (eI h 0 18)) := p
  have f0 : PF h (sI h 0 30 (eI h 0 18)) := PF_sI (PF_refl h) (by omega)
  have c58 : ok (f_X9_clause_58 (sI h 0 30 (eI h 0 18))) (fun a => PQ h a) := by
    unfold f_X9_clause_58
    refine ok_if (fun _ => ?_) (fun c => ?_)
    · refine ok_ob1 (u_errs 6 (by decide) (show 0 ≤ (eI h 0 19).toInt by rw [b.1]; decide)) (fun a ka => ?_)
      rw [clause_73_err ka.2]
      exact ok_some ⟨PF_trans f0 ka.1, Or.inl ka.2⟩
    · have d := gi_of_ne c
      have z24 : (24 : Int32).toInt = 24 := rfl
      have nb : 0 ≤ (eI (sI h 0 30 (eI h 0 18)) 0 29).toInt ∧ (eI (sI h 0 30 (eI h 0 18)) 0 29).toInt ≤ 24 := b0.2.2.2
      refine ok_mono (u_clause_73 _ b0 s4 p0 (by omega) (show ¬ eI h 0 17 = 0 by rw [c1]; decide)) (fun a ka => ⟨PF_trans f0 ka.1, ?_⟩)
      rcases ka.2 with q | q
      · exact Or.inl q
      · exact Or.inr ⟨q.1, ms_lt (Or.inr (Or.inr (Or.inr trivial))) q.2⟩
  refine ok_if (fun _ => c58) (fun _ => ?_)
  refine ok_ob2 (u_wasTold (sI h 0 30 (eI h 0 18)) b.2.2.2.2 _) (fun r4 h4 k4 => ?_)
  have e4 : sI h 0 30 (eI h 0 18) = h4 := k4.symm
  subst e4
  refine ok_if (fun _ => c58) (fun _ => ?_)
  refine ok_ob1 (u_errs 4 (by decide) (show 0 ≤ (eI h 0 19).toInt by rw [b.1]; decide)) (fun a ka => ?_)
  rw [clause_73_err ka.2]
  exact ok_some ⟨PF_trans f0 ka.1, Or.inl ka.2⟩
