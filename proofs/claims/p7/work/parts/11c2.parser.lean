/-! the frames that stand open, by the state -/
def OPS (F O r : Int) (fr cm : Nat → Int32) : Prop := ∃ c : Nat, (c : Int) < F ∧ (∀ i : Nat, c < i → (i : Int) < F → fr i = 6 ∨ fr i = 7) ∧ ((c = 0 ∧ fr 0 = 1 ∧ O = F - 1 ∧ r = 0) ∨ (1 ≤ c ∧ fr 0 = 2 ∧ (∀ i : Nat, 1 ≤ i → i < c → fr i = 3) ∧ O = F - 2 ∧ ((fr c = 4 ∧ r = 0) ∨ (fr c = 5 ∧ r = 1 ∧ BN (cm (c + 1))))))
def NOTS (F O : Int) (fr : Nat → Int32) : Prop := 1 ≤ F ∧ O = F - 1 ∧ fr 0 = 2 ∧ ∀ i : Nat, 1 ≤ i → (i : Int) < F → fr i = 3
def HF (h : HS) (r : Int) : Prop := OPS (eI h 0 22).toInt (eI h 0 21).toInt r (eA h 0 23) (eA h 0 24)
def HN (h : HS) : Prop := NOTS (eI h 0 22).toInt (eI h 0 21).toInt (eA h 0 23)
def HB (h : HS) : Prop := eI h 0 19 = 0 ∧ LX h ∧ (0 ≤ (eI h 0 21).toInt ∧ (eI h 0 21).toInt ≤ 8) ∧ (0 ≤ (eI h 0 29).toInt ∧ (eI h 0 29).toInt ≤ 24)
def P0 (h : HS) : Prop := eI h 0 28 = 0 ∧ HN h ∧ HK h (eI h 0 21).toInt ∧ HC h 0 ∧ (eI h 0 29).toInt ≤ 23
def P1 (h : HS) (r : Int) : Prop := HF h r ∧ HK h ((eI h 0 21).toInt + r) ∧ HC h r ∧ (eI h 0 29).toInt ≤ 23
def P2 (h : HS) (r : Int) : Prop := HF h r ∧ HK h ((eI h 0 21).toInt + r) ∧ HC h (r + 1) ∧ (eI h 0 29).toInt ≤ 23
def P3 (h : HS) : Prop := (eI h 0 22).toInt = 1 ∧ (eI h 0 21).toInt = 0 ∧ eA h 0 23 0 = 2 ∧ HK h 0 ∧ HC h 1 ∧ (eI h 0 29).toInt ≤ 23
def P4 (h : HS) : Prop := (eI h 0 22).toInt = 0 ∧ (eI h 0 21).toInt = 0 ∧ (eI h 0 25).toInt = 0 ∧ HK h 0
def PI (h : HS) : Prop := HB h ∧ (P0 h ∨ (eI h 0 28 = 1 ∧ ∃ r, P1 h r) ∨ (eI h 0 28 = 2 ∧ ¬ eA h 0 23 ((eI h 0 22).toInt.toNat - 1) = 7 ∧ ∃ r, P2 h r) ∨ (eI h 0 28 = 3 ∧ P3 h) ∨ (eI h 0 28 = 4 ∧ P4 h))
def MS (h : HS) : Int := 2 * (300 - (eI h 0 16).toInt) + (if eI h 0 28 = 0 ∨ eI h 0 28 = 2 then 1 else 0)
def PQ (h : HS) (a : HS) : Prop := PF h a ∧ (0 < (eI a 0 19).toInt ∨ (PI a ∧ MS a < MS h))
theorem OPS_r {F O r : Int} {fr cm : Nat → Int32} (h : OPS F O r fr cm) : 0 ≤ r ∧ r ≤ 1 ∧ 1 ≤ F ∧ F ≤ O + 2 ∧ O < F ∧ 0 ≤ O := by
  obtain ⟨c, h1, _, h3⟩ := h
  rcases h3 with ⟨a, b, d, e⟩ | ⟨a, b, d, e, f⟩
  · omega
  · rcases f with f | f <;> omega
theorem ms_lt {h a : HS} (s : eI h 0 28 = 1 ∨ eI h 0 28 = 3 ∨ eI h 0 28 = 4 ∨ True) (t : (eI h 0 16).toInt + 1 ≤ (eI a 0 16).toInt) : MS a < MS h := by
  unfold MS
  split <;> split <;> omega
theorem u_errs {h : HS} (p : Int32) (hp : 0 < p.toInt) (h0 : 0 ≤ (eI h 0 19).toInt) : ok (f_X9_errs h p) (fun a => PF h a ∧ 0 < (eI a 0 19).toInt) := by
  unfold f_X9_errs f_X9_errs_20
  refine ok_if (fun c => ok_some ⟨PF_sI (PF_sI (PF_refl h) (by omega)) (by omega), hp⟩) (fun c => ok_some ⟨PF_refl h, ?_⟩)
  have := gi_of_ne c
  have z0 : (0 : Int32).toInt = 0 := rfl
  omega
theorem err_ok {h : HS} (p : Int32) (hp : 0 < p.toInt) (b : HB h) : ok (f_X9_errs h p) (fun a => PQ h a) := ok_mono (u_errs p hp (by rw [b.1]; decide)) (fun a k => ⟨k.1, Or.inl k.2⟩)
theorem top_eq {h : HS} (h1 : 1 ≤ (eI h 0 22).toInt) (h2 : (eI h 0 22).toInt ≤ 40) : f_X9_top h = some (eA h 0 23 ((eI h 0 22).toInt.toNat - 1), h) := by
  unfold f_X9_top
  have z1 : (1 : Int32).toInt = 1 := rfl
  have a := fb_subI (x := eI h 0 22) (y := 1) (by omega) (by omega)
  have b : (eI h 0 22 - 1).toNatClampNeg = (eI h 0 22).toInt.toNat - 1 := by rw [Int32.toNatClampNeg]; omega
  rw [if_pos (by omega), b]
def OF (h : HS) (f : Int32) : HS := sI (sA h 0 23 (upd (eA h 0 23) (eI h 0 22).toInt.toNat f)) 0 22 (eI h 0 22 + 1)
theorem of_eq {h : HS} {f : Int32} (h1 : 0 ≤ (eI h 0 22).toInt) (h2 : (eI h 0 22).toInt < 40) : f_X9_opensFrame h f = some (OF h f) := by
  unfold f_X9_opensFrame OF
  have b : (eI h 0 22).toNatClampNeg = (eI h 0 22).toInt.toNat := by rw [Int32.toNatClampNeg]
  rw [if_pos ⟨h1, h2⟩, b]
theorem PF_OF {h c : HS} {f : Int32} (n : PF h c) : PF h (OF c f) := PF_sI (PF_sA n (by omega)) (by omega)
theorem of_no {h : HS} (h1 : 0 ≤ (eI h 0 22).toInt) (h2 : (eI h 0 22).toInt < 40) : (eI h 0 22 + 1).toInt = (eI h 0 22).toInt + 1 := by
  have z1 : (1 : Int32).toInt = 1 := rfl
  rw [fb_addI (by omega) (by omega), z1]
theorem HK_OF {h : HS} {b : Int} {f : Int32} (k : HK h b) (h1 : 0 ≤ (eI h 0 22).toInt) (h2 : (eI h 0 22).toInt ≤ 9) : HK (OF h f) b := by
  obtain ⟨k1, k2, k3, k4, k5, k6, k7⟩ := k
  have e := of_no (h := h) h1 (by omega)
  show K0 (eI h 0 16).toInt (eI h 0 25).toInt (eI h 0 36).toInt (eI h 0 29).toInt (eI h 0 22 + 1).toInt b (upd (eA h 0 23) (eI h 0 22).toInt.toNat f) (eA h 0 26) (eA h 0 27) (eA h 0 31) (eA h 0 32) (eA h 0 37) (eA h 0 38)
  rw [e]
  refine ⟨k1, WT_fr k2 (fun i hi => ?_) (fun i hi => upd_no ?_), k3, k4, k5, k6, by omega⟩
  · have := (k2 i hi).2.1; omega
  · have q := k2 i hi
    have := rk_lo (eA h 0 26 i)
    omega
/-! a value is over: the open - are worked -/
theorem u_oneIsOver_0 {h : HS} : ∀ (n : Nat) (c : HS) (r : Int), PF h c → HB c → P2 c r → (eI c 0 22).toInt < n → ok (f_X9_oneIsOver_0 n c) (fun a => PF h a ∧ HB a ∧ eI a 0 28 = 2 ∧ ¬ eA a 0 23 ((eI a 0 22).toInt.toNat - 1) = 7 ∧ (∃ r, P2 a r) ∧ eI a 0 16 = eI c 0 16) := by
  intro n
  induction n with
  | zero => intro c r f b p hm; have := OPS_r p.1; exact absurd hm (by omega)
  | succ n ih =>
    intro c r f b p hm
    rw [f_X9_oneIsOver_0_s]
    obtain ⟨hf, k, hc, n23⟩ := p
    have o := OPS_r hf
    rw [top_eq (h := c) o.2.2.1 (by have := b.2.2.1; omega)]
    show ok (if eA c 0 23 ((eI c 0 22).toInt.toNat - 1) = 7 then _ else _) _
    have z1 : (1 : Int32).toInt = 1 := rfl
    refine ok_if (fun c7 => ?_) (fun c7 => ok_some ⟨PF_sI f (by omega), b, rfl, c7, ⟨r, hf, k, hc, n23⟩, rfl⟩)
    have w40 := WT_le k.2.1 k.2.2.2.2.2.2
    have w0 := k.1
    have hb := b.2.2.1
    have a22 := fb_subI (x := eI c 0 22) (y := 1) (by omega) (by omega)
    have a21 := fb_subI (x := eI c 0 21) (y := 1) (by omega) (by omega)
    have nc : OPS ((eI c 0 22).toInt - 1) ((eI c 0 21).toInt - 1) r (eA c 0 23) (eA c 0 24) := by
      obtain ⟨q, h1, h2, h3⟩ := hf
      have hq : ¬ q = (eI c 0 22).toInt.toNat - 1 := by
        intro e
        rw [← e] at c7
        rcases h3 with ⟨e0, e1, _⟩ | ⟨_, _, _, _, e1⟩
        · subst e0; rw [e1] at c7; exact absurd c7 (by decide)
        · rcases e1 with e1 | e1 <;> (rw [e1.1] at c7; exact absurd c7 (by decide))
      refine ⟨q, by omega, fun i hi hi2 => h2 i hi (by omega), ?_⟩
      rcases h3 with ⟨a, b, d, e⟩ | ⟨a, b, d, e, g⟩
      · exact Or.inl ⟨a, b, by omega, e⟩
      · exact Or.inr ⟨a, b, d, by omega, g⟩
    have o2 := OPS_r nc
    have k2 : HK (sI (sI c 0 22 (eI c 0 22 - 1)) 0 21 (eI c 0 21 - 1)) ((eI c 0 21).toInt - 1 + r + 1) := by
      obtain ⟨k1, k2, k3, k4, k5, k6, k7⟩ := k
      show K0 (eI c 0 16).toInt (eI c 0 25).toInt (eI c 0 36).toInt (eI c 0 29).toInt (eI c 0 22 - 1).toInt ((eI c 0 21).toInt - 1 + r + 1) (eA c 0 23) (eA c 0 26) (eA c 0 27) (eA c 0 31) (eA c 0 32) (eA c 0 37) (eA c 0 38)
      rw [a22, z1]
      refine ⟨k1, WT_fr k2 (fun i hi => ?_) (fun i hi => rfl), k3, by omega, k5, k6, by omega⟩
      obtain ⟨_, q1, q2, _, _, q7, _⟩ := k2 i hi
      apply Int.not_lt.mp
      intro cc
      have : (eA c 0 27 i).toInt = (eI c 0 22).toInt := by omega
      rw [this] at q7
      exact q7 c7
    have em := em_eq (h := sI (sI c 0 22 (eI c 0 22 - 1)) 0 21 (eI c 0 21 - 1)) (o := 402) (v := 0) (show 0 ≤ (eI c 0 36).toInt from k.2.2.1) (show (eI c 0 36).toInt < 400 by have := k.2.2.2; omega)
    rw [em]
    show ok (f_X9_oneIsOver_0 n (EM (sI (sI c 0 22 (eI c 0 22 - 1)) 0 21 (eI c 0 21 - 1)) 402 0)) _
    have st : ST 402 0 ((eI c 0 25).toInt + (r + 1)) ((eI c 0 25).toInt + (r + 1)) := Or.inr (Or.inl ⟨Or.inl rfl, by omega, by omega, rfl⟩)
    have ob : (eI c 0 21 - 1).toInt = (eI c 0 21).toInt - 1 := by omega
    refine ih _ r (PF_EM (PF_sI (PF_sI f (by omega)) (by omega))) ⟨b.1, b.2.1, ?_, b.2.2.2⟩ ⟨?_, ?_, ?_, n23⟩ ?_
    · show 0 ≤ (eI c 0 21 - 1).toInt ∧ (eI c 0 21 - 1).toInt ≤ 8
      rw [ob]; omega
    · show OPS (eI c 0 22 - 1).toInt (eI c 0 21 - 1).toInt r (eA c 0 23) (eA c 0 24)
      rw [ob, a22, z1]; exact nc
    · have := HK_em (o := 402) (v := 0) k2 (by omega)
      show HK _ ((eI c 0 21 - 1).toInt + r)
      rw [ob]; exact this
    · exact HC_em (h := sI (sI c 0 22 (eI c 0 22 - 1)) 0 21 (eI c 0 21 - 1)) k2 (by omega) hc st
    · show (eI c 0 22 - 1).toInt < n
      rw [a22, z1]; omega
theorem u_oneIsOver {h : HS} (c : HS) (r : Int) (f : PF h c) (b : HB c) (p : P2 c r) : ok (f_X9_oneIsOver c) (fun a => PF h a ∧ HB a ∧ eI a 0 28 = 2 ∧ ¬ eA a 0 23 ((eI a 0 22).toInt.toNat - 1) = 7 ∧ (∃ r, P2 a r) ∧ eI a 0 16 = eI c 0 16) := by
  unfold f_X9_oneIsOver
  have o := OPS_r p.1
  have := b.2.2.1
  exact u_oneIsOver_0 _ c r f b p (by omega)
theorem u_askIsOver_0 {h : HS} : ∀ (n : Nat) (c : HS), PF h c → HB c → HN c → HK c (eI c 0 21).toInt → HC c 1 → (eI c 0 29).toInt ≤ 23 → (eI c 0 22).toInt < n → ok (f_X9_askIsOver_0 n c) (fun a => PF h a ∧ HB a ∧ eI a 0 28 = 3 ∧ P3 a ∧ eI a 0 16 = eI c 0 16) := by
  intro n
  induction n with
  | zero => intro c f b hn k hc n23 hm; exact absurd hm (by have := hn.1; omega)
  | succ n ih =>
    intro c f b hn k hc n23 hm
    rw [f_X9_askIsOver_0_s]
    obtain ⟨n1, n2, n3, n4⟩ := hn
    have hb := b.2.2.1
    rw [top_eq (h := c) n1 (by omega)]
    show ok (if eA c 0 23 ((eI c 0 22).toInt.toNat - 1) = 3 then _ else _) _
    have z1 : (1 : Int32).toInt = 1 := rfl
    refine ok_if (fun c7 => ?_) (fun c7 => ?_)
    · have f2 : 2 ≤ (eI c 0 22).toInt := by
        apply Int.not_lt.mp
        intro q
        have e : (eI c 0 22).toInt.toNat - 1 = 0 := by omega
        rw [e, n3] at c7
        exact absurd c7 (by decide)
      have w40 := WT_le k.2.1 k.2.2.2.2.2.2
      have w0 := k.1
      have a22 := fb_subI (x := eI c 0 22) (y := 1) (by omega) (by omega)
      have a21 := fb_subI (x := eI c 0 21) (y := 1) (by omega) (by omega)
      have k2 : HK (sI (sI c 0 22 (eI c 0 22 - 1)) 0 21 (eI c 0 21 - 1)) ((eI c 0 21).toInt - 1 + 1) := by
        obtain ⟨k1, k2, k3, k4, k5, k6, k7⟩ := k
        show K0 (eI c 0 16).toInt (eI c 0 25).toInt (eI c 0 36).toInt (eI c 0 29).toInt (eI c 0 22 - 1).toInt ((eI c 0 21).toInt - 1 + 1) (eA c 0 23) (eA c 0 26) (eA c 0 27) (eA c 0 31) (eA c 0 32) (eA c 0 37) (eA c 0 38)
        rw [a22, z1]
        refine ⟨k1, WT_fr k2 (fun i hi => ?_) (fun i hi => rfl), k3, by omega, k5, k6, by omega⟩
        obtain ⟨_, q1, q2, _, q3, _, _⟩ := k2 i hi
        apply Int.not_lt.mp
        intro cc
        have : (eA c 0 27 i).toInt = (eI c 0 22).toInt := by omega
        rw [this] at q3
        exact q3 c7
      have em := em_eq (h := sI (sI c 0 22 (eI c 0 22 - 1)) 0 21 (eI c 0 21 - 1)) (o := 405) (v := 0) (show 0 ≤ (eI c 0 36).toInt from k.2.2.1) (show (eI c 0 36).toInt < 400 by have := k.2.2.2; omega)
      rw [em]
      show ok (f_X9_askIsOver_0 n (EM (sI (sI c 0 22 (eI c 0 22 - 1)) 0 21 (eI c 0 21 - 1)) 405 0)) _
      have st : ST 405 0 ((eI c 0 25).toInt + 1) ((eI c 0 25).toInt + 1) := Or.inr (Or.inl ⟨Or.inr rfl, by omega, by omega, rfl⟩)
      have ob : (eI c 0 21 - 1).toInt = (eI c 0 21).toInt - 1 := by omega
      refine ih _ (PF_EM (PF_sI (PF_sI f (by omega)) (by omega))) ⟨b.1, b.2.1, ?_, b.2.2.2⟩ ?_ ?_ ?_ n23 ?_
      · show 0 ≤ (eI c 0 21 - 1).toInt ∧ (eI c 0 21 - 1).toInt ≤ 8
        rw [ob]; omega
      · show NOTS (eI c 0 22 - 1).toInt (eI c 0 21 - 1).toInt (eA c 0 23)
        rw [ob, a22, z1]
        exact ⟨by omega, by omega, n3, fun i h1 h2 => n4 i h1 (by omega)⟩
      · have := HK_em (o := 405) (v := 0) k2 (by omega)
        show HK _ (eI c 0 21 - 1).toInt
        rw [ob]; exact this
      · exact HC_em (h := sI (sI c 0 22 (eI c 0 22 - 1)) 0 21 (eI c 0 21 - 1)) k2 (by omega) hc st
      · show (eI c 0 22 - 1).toInt < n
        rw [a22, z1]; omega
    · have f1 : (eI c 0 22).toInt = 1 := by
        apply Int.le_antisymm _ n1
        apply Int.not_lt.mp
        intro q
        exact c7 (n4 ((eI c 0 22).toInt.toNat - 1) (by omega) (by omega))
      have o0 : (eI c 0 21).toInt = 0 := by omega
      rw [o0] at k
      exact ok_some ⟨PF_sI f (by omega), b, rfl, ⟨f1, o0, n3, k, hc, n23⟩, rfl⟩
theorem u_askIsOver {h : HS} (c : HS) (f : PF h c) (b : HB c) (hn : HN c) (k : HK c (eI c 0 21).toInt) (hc : HC c 1) (n23 : (eI c 0 29).toInt ≤ 23) : ok (f_X9_askIsOver c) (fun a => PF h a ∧ HB a ∧ eI a 0 28 = 3 ∧ P3 a ∧ eI a 0 16 = eI c 0 16) := by
  unfold f_X9_askIsOver
  have := b.2.2.1; have := hn.2.1
  exact u_askIsOver_0 _ c f b hn k hc n23 (by omega)
/-! next, over what the parser keeps -/
theorem u_nextB (h : HS) (b : HB h) : ok (f_X9_next h) (fun a => NX h a ∧ HB a ∧ (eI h 0 15).toInt ≤ (eI a 0 16).toInt) := by
  obtain ⟨b1, ⟨l1, l2, l3, l4, l5, l6⟩, b3, b4⟩ := b
  refine ok_mono (u_X9_next h ⟨by omega, l3, l4⟩) (fun a k => ⟨k.1, ⟨?_, k.2.1, ?_, ?_⟩, k.2.2⟩)
  · rw [k.1.1 19 (by omega)]; exact b1
  · rw [k.1.1 21 (by omega)]; exact b3
  · rw [k.1.1 29 (by omega)]; exact b4
theorem HK_next {h c : HS} {b : Int} (k : HK h b) (bh : HB h) (x : NX h c) (bc : HB c) (t : (eI h 0 15).toInt ≤ (eI c 0 16).toInt) (s : ¬ eI h 0 17 = 0) : HK c (b + 1) ∧ (eI h 0 16).toInt + 1 ≤ (eI c 0 16).toInt := by
  have l := bh.2.1
  have t1 := l.2.2.2.2.1 s
  obtain ⟨m1, m2, m3, m4, _⟩ := bc.2.1
  exact ⟨HK_NX k x (by omega) (by omega), by omega⟩
