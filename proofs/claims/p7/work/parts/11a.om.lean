/-! the reference's invariant -/
def GB (f : Nat → Int32) (b : Nat) : Prop := ∀ g : Nat, g < 10 → (0 ≤ (f (b + 9 * g + 1)).toInt ∧ (f (b + 9 * g + 1)).toInt ≤ 99) ∧ (-1 ≤ (f (b + 9 * g + 3)).toInt ∧ (f (b + 9 * g + 3)).toInt ≤ 2) ∧ ((f (b + 9 * g + 2)).toInt = -1 ∨ 0 ≤ (f (b + 9 * g + 3)).toInt) ∧ (-1 ≤ (f (b + 9 * g + 5)).toInt ∧ (f (b + 9 * g + 5)).toInt ≤ 3)
def RC (f : Nat → Int32) : Prop := (0 ≤ (f 0).toInt ∧ (f 0).toInt ≤ 4) ∧ (0 ≤ (f 1).toInt ∧ (f 1).toInt ≤ 10) ∧ (0 ≤ (f 3).toInt ∧ (f 3).toInt ≤ 4) ∧ (-1 ≤ (f 4).toInt ∧ (f 4).toInt < (f 3).toInt) ∧ (0 ≤ (f 5).toInt ∧ (f 5).toInt ≤ 20)
def RO (f : Nat → Int32) : Prop := RC f ∧ GB f 30 ∧ ∀ s : Nat, s < 20 → GB f (130 + 93 * s)
def ST (o v : Int32) (d e : Int) : Prop := ((o = 400 ∨ (o = 401 ∧ 0 ≤ v.toInt ∧ v.toInt ≤ 8)) ∧ 0 ≤ d ∧ d < 199 ∧ e = d + 1) ∨ ((o = 402 ∨ o = 405) ∧ 1 ≤ d ∧ d < 200 ∧ e = d) ∨ (¬ o = 400 ∧ ¬ o = 401 ∧ ¬ o = 402 ∧ ¬ o = 405 ∧ ¬ o = 408 ∧ 2 ≤ d ∧ d < 200 ∧ e = d - 1)
def PO (o v : Nat → Int32) (p n : Nat) (d : Int) : Prop := ∃ dep : Nat → Int, dep 0 = 0 ∧ dep n = d ∧ ∀ j : Nat, j < n → ST (o (p + j)) (v (p + j)) (dep j) (dep (j + 1))
def PG (o v : Nat → Int32) (p m : Nat) : Prop := ∃ (n : Nat) (d : Int), p + n < m ∧ o (p + n) = 408 ∧ PO o v p n d
def PR (h : HS) (x : Int32) : Prop := 0 ≤ x.toInt ∧ PG (eA h 0 12) (eA h 0 13) x.toInt.toNat 1600
def PT (h : HS) (t : Nat) (x : Int32) : Prop := 400 * (t : Int) ≤ x.toInt ∧ PG (eA h 0 12) (eA h 0 13) x.toInt.toNat (400 * t + 400)
def TX (h : HS) : Prop := ∀ t : Nat, t < 4 → (0 ≤ (eA h 0 6 t).toInt ∧ (eA h 0 6 t).toInt ≤ 24) ∧ ∀ k : Nat, (k : Int) < (eA h 0 6 t).toInt → (eA h 0 7 (24 * t + k)).toInt ≤ 3 → PT h t (eA h 0 8 (24 * t + k))
theorem PT_PR {h : HS} {t : Nat} {x : Int32} (ht : t < 4) (p : PT h t x) : PR h x := by
  obtain ⟨a, n, d, b, c⟩ := p
  exact ⟨by omega, n, d, by omega, c⟩
def CH (f g : Nat → Int32) : Prop := ∀ k : Nat, k < 3 → (0 ≤ (f k).toInt ∧ (f k).toInt ≤ 9) ∧ (0 ≤ (g k).toInt ∧ (g k).toInt ≤ 11)
def NM (h : HS) : Prop := (0 ≤ (eI h 0 3).toInt ∧ (eI h 0 3).toInt ≤ 300) ∧ (0 ≤ (eI h 0 47).toInt ∧ (eI h 0 47).toInt ≤ 10)
def IM (h : HS) : Prop := NM h ∧ RO (eA h 0 0) ∧ RO (eA h 0 1) ∧ TX h ∧ CH (eA h 0 48) (eA h 0 49)
def SM (h c : HS) : Prop := IM c ∧ eA c 0 0 = eA h 0 0 ∧ eA c 0 12 = eA h 0 12 ∧ eA c 0 13 = eA h 0 13 ∧ eI c 0 47 = eI h 0 47
def SW (h c : HS) : Prop := IM c ∧ eA c 0 0 0 = eA h 0 0 0 ∧ eA c 0 0 1 = eA h 0 0 1 ∧ eA c 0 0 3 = eA h 0 0 3
theorem SM_refl {h : HS} (i : IM h) : SM h h := ⟨i, rfl, rfl, rfl, rfl⟩
theorem SW_refl {h : HS} (i : IM h) : SW h h := ⟨i, rfl, rfl, rfl⟩
theorem SM_trans {a b c : HS} (x : SM a b) (y : SM b c) : SM a c := ⟨y.1, y.2.1.trans x.2.1, y.2.2.1.trans x.2.2.1, y.2.2.2.1.trans x.2.2.2.1, y.2.2.2.2.trans x.2.2.2.2⟩
theorem SW_trans {a b c : HS} (x : SW a b) (y : SW b c) : SW a c := ⟨y.1, y.2.1.trans x.2.1, y.2.2.1.trans x.2.2.1, y.2.2.2.trans x.2.2.2⟩
theorem SM_SW {a b : HS} (x : SM a b) : SW a b := ⟨x.1, by rw [x.2.1], by rw [x.2.1], by rw [x.2.1]⟩
theorem IM_n {h : HS} (i : IM h) : ((0 ≤ (eA h 0 0 0).toInt ∧ (eA h 0 0 0).toInt ≤ 4) ∧ (0 ≤ (eA h 0 0 1).toInt ∧ (eA h 0 0 1).toInt ≤ 10) ∧ (0 ≤ (eA h 0 0 3).toInt ∧ (eA h 0 0 3).toInt ≤ 4) ∧ (-1 ≤ (eA h 0 0 4).toInt ∧ (eA h 0 0 4).toInt < (eA h 0 0 3).toInt) ∧ (0 ≤ (eA h 0 0 5).toInt ∧ (eA h 0 0 5).toInt ≤ 20)) ∧ (0 ≤ (eI h 0 3).toInt ∧ (eI h 0 3).toInt ≤ 300) ∧ (0 ≤ (eI h 0 47).toInt ∧ (eI h 0 47).toInt ≤ 10) := ⟨i.2.1.1, i.1⟩
theorem GB_upd {f : Nat → Int32} {b i : Nat} {v : Int32} (h : GB f b) (hi : ∀ g : Nat, g < 10 → ¬ i = b + 9 * g + 1 ∧ ¬ i = b + 9 * g + 2 ∧ ¬ i = b + 9 * g + 3 ∧ ¬ i = b + 9 * g + 5) : GB (upd f i v) b := by
  intro g hg
  obtain ⟨a1, a2, a3, a5⟩ := hi g hg
  unfold upd
  rw [if_neg (fun e => a1 e.symm), if_neg (fun e => a3 e.symm), if_neg (fun e => a2 e.symm), if_neg (fun e => a5 e.symm)]
  exact h g hg
theorem RC_upd {f : Nat → Int32} {i : Nat} {v : Int32} (h : RC f) (hi : 6 ≤ i ∨ i = 2) : RC (upd f i v) := by
  unfold RC upd
  rw [if_neg (by omega), if_neg (by omega), if_neg (by omega), if_neg (by omega), if_neg (by omega)]
  exact h
theorem RO_free {f : Nat → Int32} {i : Nat} {v : Int32} (h : RO f) (hi : i = 2 ∨ (120 ≤ i ∧ i < 130) ∨ (6 ≤ i ∧ i < 30)) : RO (upd f i v) :=
  ⟨RC_upd h.1 (by omega), GB_upd h.2.1 (fun g hg => by omega), fun s hs => GB_upd (h.2.2 s hs) (fun g hg => by omega)⟩
theorem sw_row {h c : HS} {f : Nat → Int32} (s : SW h c) (hf : RO f) (e0 : f 0 = eA c 0 0 0) (e1 : f 1 = eA c 0 0 1) (e3 : f 3 = eA c 0 0 3) : SW h (sA c 0 0 f) :=
  ⟨⟨s.1.1, hf, s.1.2.2.1, s.1.2.2.2.1, s.1.2.2.2.2⟩, e0.trans s.2.1, e1.trans s.2.2.1, e3.trans s.2.2.2⟩
theorem fb_rem {x y : Int32} {k : Int} (e : y.toInt = k) (hk : 1 < k) : (0 ≤ x.toInt → 0 ≤ (x - x / y * y).toInt ∧ (x - x / y * y).toInt < k) := by
  intro h0
  have r := fb_rng x
  have q := (fb_divK (x := x) (y := y) (k := k) e hk).1 h0
  have r2 := fb_rng y
  have m1 : (x / y * y).toInt = (x / y).toInt * k := fb_mulK e (by omega) (by omega)
  have m2 : (x - x / y * y).toInt = x.toInt - (x / y * y).toInt := fb_subI (by omega) (by omega)
  omega
theorem fb_or2 {x y : Int32} (h1 : 0 ≤ x.toInt) (h2 : x.toInt < 4) (h3 : 0 ≤ y.toInt) (h4 : y.toInt < 4) : 0 ≤ (x ||| y).toInt ∧ (x ||| y).toInt < 4 := by
  have hx : x = Int32.ofInt x.toInt := (Int32.ofInt_toInt x).symm
  have hy : y = Int32.ofInt y.toInt := (Int32.ofInt_toInt y).symm
  generalize x.toInt = a at *
  generalize y.toInt = b at *
  subst hx
  subst hy
  obtain ⟨m, rfl⟩ := Int.eq_ofNat_of_zero_le h1
  obtain ⟨n, rfl⟩ := Int.eq_ofNat_of_zero_le h3
  have hm : m < 4 := by omega
  have hn : n < 4 := by omega
  have key : ∀ m : Fin 4, ∀ n : Fin 4, 0 ≤ (Int32.ofInt (m.val : Nat) ||| Int32.ofInt (n.val : Nat)).toInt ∧ (Int32.ofInt (m.val : Nat) ||| Int32.ofInt (n.val : Nat)).toInt < 4 := by decide +kernel
  exact key ⟨m, hm⟩ ⟨n, hn⟩
def IMO (h : HS) : Prop := NM h ∧ RO (eA h 0 1) ∧ TX h ∧ CH (eA h 0 48) (eA h 0 49)
theorem IM_of {h : HS} (o : IMO h) (r : RO (eA h 0 0)) : IM h := ⟨o.1, r, o.2.1, o.2.2.1, o.2.2.2⟩
theorem IMO_of {h : HS} (i : IM h) : IMO h := ⟨i.1, i.2.2.1, i.2.2.2.1, i.2.2.2.2⟩
theorem GB_shift {f g : Nat → Int32} {b c : Nat} (h : GB f b) (e : ∀ j : Nat, j < 90 → g (c + j) = f (b + j)) : GB g c := by
  intro k hk
  have e1 := e (9 * k + 1) (by omega); have e2 := e (9 * k + 2) (by omega); have e3 := e (9 * k + 3) (by omega); have e5 := e (9 * k + 5) (by omega)
  have q := h k hk
  simp only [← Nat.add_assoc] at e1 e2 e3 e5
  rw [e1, e2, e3, e5]
  exact q
theorem RC_congr {f g : Nat → Int32} (h : RC f) (e0 : g 0 = f 0) (e1 : g 1 = f 1) (e3 : g 3 = f 3) (e4 : g 4 = f 4) (h5 : 0 ≤ (g 5).toInt ∧ (g 5).toInt ≤ 20) : RC g := by
  unfold RC
  rw [e0, e1, e3, e4]
  exact ⟨h.1, h.2.1, h.2.2.1, h.2.2.2.1, h5⟩
theorem RC_congr5 {f g : Nat → Int32} (h : RC f) (e0 : g 0 = f 0) (e1 : g 1 = f 1) (e3 : g 3 = f 3) (e4 : g 4 = f 4) (e5 : g 5 = f 5) : RC g := RC_congr h e0 e1 e3 e4 (by rw [e5]; exact h.2.2.2.2)
