theorem u_X9_about (h : HS) (p1 : Int32) (hI : IM h) : ok (f_X9_about h p1) (fun a => a.2 = h ∧ True) := by
  unfold f_X9_about
  refine ok_if (fun c1 => ?_) (fun c1 => ?_)
  · exact ok_some ⟨rfl, trivial⟩
  · refine ok_if (fun c2 => ?_) (fun c2 => ?_)
    · exact ok_some ⟨rfl, trivial⟩
    · refine ok_if (fun c3 => ?_) (fun c3 => ?_)
      · exact ok_some ⟨rfl, trivial⟩
      · refine ok_if (fun c4 => ?_) (fun c4 => ?_)
        · exact ok_some ⟨rfl, trivial⟩
        · refine ok_if (fun c5 => ?_) (fun c5 => ?_)
          · exact ok_some ⟨rfl, trivial⟩
          · refine ok_if (fun c6 => ?_) (fun c6 => ?_)
            · exact ok_some ⟨rfl, trivial⟩
            · refine ok_if (fun c7 => ?_) (fun c7 => ?_)
              · exact ok_some ⟨rfl, trivial⟩
              · refine ok_if (fun c8 => ?_) (fun c8 => ?_)
                · exact ok_some ⟨rfl, trivial⟩
                · refine ok_if (fun c9 => ?_) (fun c9 => ?_)
                  · exact ok_some ⟨rfl, trivial⟩
                  · refine ok_if (fun c10 => ?_) (fun c10 => ?_)
                    · exact ok_some ⟨rfl, trivial⟩
                    · refine ok_ob2 (u_X9_isMarket h (p1 - 10) ((SM_refl hI)).1) (fun r11 h11 k11 => ?_)
                      have e11 : h = h11 := k11.1.symm
                      subst e11
                      refine ok_if (fun c12 => ?_) (fun c12 => ?_)
                      · refine ok_ob1 (u_X9_in p1 20 25) (fun r13 k13 => ?_)
                        refine ok_if (fun c14 => ?_) (fun c14 => ?_)
                        · unfold f_X9_about_203
                          exact ok_some ⟨rfl, trivial⟩
                        · refine ok_ob2 (u_X9_geeseOf h (p1 - 20) ((SM_refl hI)).1) (fun r15 h15 k15 => ?_)
                          have e15 : h = h15 := k15.1.symm
                          subst e15
                          unfold f_X9_about_203
                          exact ok_some ⟨rfl, trivial⟩
                      · refine ok_chk (by have := IM_n (SM_refl hI).1; have : ((r11).toInt = 0 ∨ (0 ≤ (p1 - 10).toInt ∧ (p1 - 10).toInt < ((eA h 0 0) 0).toInt)) := k11.2.2; have := gi_of_ne c1; have := gi_of_ne c2; have := gi_of_ne c3; have := gi_of_ne c4; have := gi_of_ne c5; have := gi_of_ne c6; have := gi_of_ne c7; have := gi_of_ne c8; have := gi_of_ne c9; have := gi_of_ne c10; have := gi_of_ne c12; have : (0 : Int32).toInt = 0 := rfl; have : (1 : Int32).toInt = 1 := rfl; have : (10 : Int32).toInt = 10 := rfl; have : (2 : Int32).toInt = 2 := rfl; have : (3 : Int32).toInt = 3 := rfl; have : (4 : Int32).toInt = 4 := rfl; have : (5 : Int32).toInt = 5 := rfl; have : (6 : Int32).toInt = 6 := rfl; have : (7 : Int32).toInt = 7 := rfl; have : (8 : Int32).toInt = 8 := rfl; have : (9 : Int32).toInt = 9 := rfl; have := fb_rng (p1); have := fb_rng (r11); (try have := fb_subI (x := p1) (y := 10) (by omega) (by omega)); (try have := fb_mulJ (x := 3) (y := (p1 - 10)) (k := 3) rfl (by omega) (by omega)); (try have := fb_addI (x := 10) (y := (3 * (p1 - 10))) (by omega) (by omega)); omega) ?_
                        refine ok_chk (by have := IM_n (SM_refl hI).1; have : ((r11).toInt = 0 ∨ (0 ≤ (p1 - 10).toInt ∧ (p1 - 10).toInt < ((eA h 0 0) 0).toInt)) := k11.2.2; have := gi_of_ne c1; have := gi_of_ne c2; have := gi_of_ne c3; have := gi_of_ne c4; have := gi_of_ne c5; have := gi_of_ne c6; have := gi_of_ne c7; have := gi_of_ne c8; have := gi_of_ne c9; have := gi_of_ne c10; have := gi_of_ne c12; have : (0 : Int32).toInt = 0 := rfl; have : (1 : Int32).toInt = 1 := rfl; have : (10 : Int32).toInt = 10 := rfl; have : (2 : Int32).toInt = 2 := rfl; have : (3 : Int32).toInt = 3 := rfl; have : (4 : Int32).toInt = 4 := rfl; have : (5 : Int32).toInt = 5 := rfl; have : (6 : Int32).toInt = 6 := rfl; have : (7 : Int32).toInt = 7 := rfl; have : (8 : Int32).toInt = 8 := rfl; have : (9 : Int32).toInt = 9 := rfl; have := fb_rng (p1); have := fb_rng (r11); (try have := fb_subI (x := p1) (y := 10) (by omega) (by omega)); (try have := fb_mulJ (x := 3) (y := (p1 - 10)) (k := 3) rfl (by omega) (by omega)); (try have := fb_addI (x := 10) (y := (3 * (p1 - 10))) (by omega) (by omega)); (try have := fb_addI (x := (10 + (3 * (p1 - 10)))) (y := 1) (by omega) (by omega)); omega) ?_
                        refine ok_chk (by have := IM_n (SM_refl hI).1; have : ((r11).toInt = 0 ∨ (0 ≤ (p1 - 10).toInt ∧ (p1 - 10).toInt < ((eA h 0 0) 0).toInt)) := k11.2.2; have := gi_of_ne c1; have := gi_of_ne c2; have := gi_of_ne c3; have := gi_of_ne c4; have := gi_of_ne c5; have := gi_of_ne c6; have := gi_of_ne c7; have := gi_of_ne c8; have := gi_of_ne c9; have := gi_of_ne c10; have := gi_of_ne c12; have : (0 : Int32).toInt = 0 := rfl; have : (1 : Int32).toInt = 1 := rfl; have : (10 : Int32).toInt = 10 := rfl; have : (2 : Int32).toInt = 2 := rfl; have : (3 : Int32).toInt = 3 := rfl; have : (4 : Int32).toInt = 4 := rfl; have : (5 : Int32).toInt = 5 := rfl; have : (6 : Int32).toInt = 6 := rfl; have : (7 : Int32).toInt = 7 := rfl; have : (8 : Int32).toInt = 8 := rfl; have : (9 : Int32).toInt = 9 := rfl; have := fb_rng (p1); have := fb_rng (r11); (try have := fb_subI (x := p1) (y := 10) (by omega) (by omega)); (try have := fb_mulJ (x := 3) (y := (p1 - 10)) (k := 3) rfl (by omega) (by omega)); (try have := fb_addI (x := 10) (y := (3 * (p1 - 10))) (by omega) (by omega)); (try have := fb_addI (x := (10 + (3 * (p1 - 10)))) (y := 2) (by omega) (by omega)); omega) ?_
                        exact ok_some ⟨rfl, trivial⟩
theorem u_X9_holds (h : HS) (hI : IM h) : ok (f_X9_holds h) (fun a => a.2 = h ∧ True) := by
  unfold f_X9_holds f_X9_holds_45
  refine ok_ob2 (u_X9_geeseOf h 0 hI) (fun r1 h1 k1 => ?_)
  have e1 : h = h1 := k1.1.symm
  subst e1
  refine ok_if (fun c => ok_some ⟨rfl, trivial⟩) (fun c => ?_)
  refine ok_chk c ?_
  exact ok_if (fun c => ok_some ⟨rfl, trivial⟩) (fun c => ok_some ⟨rfl, trivial⟩)
def NX (h c : HS) : Prop := (∀ k : Nat, (k < 15 ∨ 18 < k) → eI c 0 k = eI h 0 k) ∧ ∀ k : Nat, eA c 0 k = eA h 0 k
def LX (h : HS) : Prop := 0 ≤ (eI h 0 16).toInt ∧ (eI h 0 16).toInt ≤ (eI h 0 15).toInt ∧ (eI h 0 15).toInt ≤ (eI h 0 14).toInt ∧ (eI h 0 14).toInt ≤ 300 ∧ (¬ eI h 0 17 = 0 → (eI h 0 16).toInt < (eI h 0 15).toInt) ∧ (eI h 0 17 = 1 → 0 ≤ (eI h 0 18).toInt ∧ (eI h 0 18).toInt ≤ 21)
theorem NX_refl (h : HS) : NX h h := ⟨fun _ _ => rfl, fun _ => rfl⟩
theorem NX_trans {a b c : HS} (x : NX a b) (y : NX b c) : NX a c := ⟨fun k hk => (y.1 k hk).trans (x.1 k hk), fun k => (y.2 k).trans (x.2 k)⟩
theorem eI_ne {h : HS} {a k : Nat} {x : Int32} (hk : ¬ k = a) : eI (sI h 0 a x) 0 k = eI h 0 k := by
  show (if (0 : Nat) = 0 then (if k = a then x else h.1 0 k) else h.1 0 k) = h.1 0 k
  rw [if_pos rfl, if_neg hk]
theorem NX_sI {h c : HS} {a : Nat} {x : Int32} (n : NX h c) (ha : 15 ≤ a ∧ a ≤ 18) : NX h (sI c 0 a x) := ⟨fun k hk => (eI_ne (by omega)).trans (n.1 k hk), n.2⟩
theorem SM_frame {h0 h c : HS} (s : SM h0 h) (e3 : eI c 0 3 = eI h 0 3) (e47 : eI c 0 47 = eI h 0 47) (a0 : eA c 0 0 = eA h 0 0) (a1 : eA c 0 1 = eA h 0 1) (a6 : eA c 0 6 = eA h 0 6) (a7 : eA c 0 7 = eA h 0 7) (a8 : eA c 0 8 = eA h 0 8) (a12 : eA c 0 12 = eA h 0 12) (a13 : eA c 0 13 = eA h 0 13) (a48 : eA c 0 48 = eA h 0 48) (a49 : eA c 0 49 = eA h 0 49) : SM h0 c := by
  obtain ⟨⟨n, r0, r1, t, ch⟩, q0, q12, q13, q47⟩ := s
  refine ⟨⟨?_, by rw [a0]; exact r0, by rw [a1]; exact r1, ?_, by rw [a48, a49]; exact ch⟩, a0.trans q0, a12.trans q12, a13.trans q13, e47.trans q47⟩
  · unfold NM; rw [e3, e47]; exact n
  · unfold TX PT; rw [a6, a7, a8, a12, a13]; exact t
theorem SM_NX {h0 h c : HS} (s : SM h0 h) (n : NX h c) : SM h0 c := SM_frame s (n.1 3 (by omega)) (n.1 47 (by omega)) (n.2 0) (n.2 1) (n.2 6) (n.2 7) (n.2 8) (n.2 12) (n.2 13) (n.2 48) (n.2 49)
def NQ (h : HS) (T : Int) (c : HS) : Prop := NX h c ∧ LX c ∧ (eI c 0 16).toInt = T
theorem nq_of {h c : HS} {T : Int} (n : NX h c) (t0 : 0 ≤ T) (e16 : (eI c 0 16).toInt = T) (h1 : T < (eI c 0 15).toInt) (h2 : (eI c 0 15).toInt ≤ (eI c 0 14).toInt) (h3 : (eI c 0 14).toInt ≤ 300) (h4 : eI c 0 17 = 1 → 0 ≤ (eI c 0 18).toInt ∧ (eI c 0 18).toInt ≤ 21) : NQ h T c := ⟨n, ⟨by omega, by omega, h2, h3, fun _ => by omega, h4⟩, e16⟩
theorem u_X9_next_385 {h : HS} {T : Int} (c : HS) (x1 : Int32) (t0 : 0 ≤ T) (n : NX h c) (e16 : (eI c 0 16).toInt = T) (h1 : T < (eI c 0 15).toInt) (h2 : (eI c 0 15).toInt ≤ (eI c 0 14).toInt) (h3 : (eI c 0 14).toInt ≤ 300) (h4 : ¬ eI c 0 17 = 1) : ok (f_X9_next_385 c x1) (fun a => NQ h T a) := by
  unfold f_X9_next_385 f_X9_next_439 f_X9_next_426 f_X9_next_439
  have z1 : (1 : Int32).toInt = 1 := rfl
  have no : ok (some c) (fun a => NQ h T a) := ok_some (nq_of n t0 e16 h1 h2 h3 (fun e => absurd e h4))
  refine ok_if (fun c => no) (fun c1 => ?_)
  have d := gi_of_nle c1
  have a := fb_addI (x := eI c 0 15) (y := 1) (by omega) (by omega)
  refine ok_chk (by omega) ?_
  have go : ∀ y : Int32, ok (some (sI (sI c 0 18 y) 0 15 (eI c 0 15 + 1))) (fun a => NQ h T a) := by
    intro y
    refine ok_some (nq_of (NX_sI (NX_sI n (by omega)) (by omega)) t0 e16 ?_ ?_ h3 (fun e => absurd e h4))
    · show T < (eI c 0 15 + 1).toInt; omega
    · show (eI c 0 15 + 1).toInt ≤ (eI c 0 14).toInt; omega
  exact ok_if (fun c => ok_if (fun c => go _) (fun c => go _)) (fun c => no)
theorem u_X9_next_370 {h : HS} {T : Int} (c : HS) (x1 y0 : Int32) (hy : ¬ y0 = 1) (t0 : 0 ≤ T) (n : NX h c) (e16 : (eI c 0 16).toInt = T) (h1 : T < (eI c 0 15).toInt) (h2 : (eI c 0 15).toInt ≤ (eI c 0 14).toInt) (h3 : (eI c 0 14).toInt ≤ 300) : ok (f_X9_next_370 c x1 y0) (fun a => NQ h T a) := by
  unfold f_X9_next_370 f_X9_next_439
  have go := u_X9_next_385 (T := T) (sI c 0 17 y0) x1 t0 (NX_sI n (by omega)) e16 h1 h2 h3 hy
  exact ok_if (fun c => go) (fun c => ok_if (fun c => go) (fun _ => ok_some (nq_of (NX_sI n (by omega)) t0 e16 h1 h2 h3 (fun e => absurd e hy))))
theorem u_X9_next_232 {h : HS} {T : Int} (t0 : 0 ≤ T) : ∀ (m : Nat) (c : HS), NX h c → (eI c 0 16).toInt = T → T ≤ (eI c 0 15).toInt → (eI c 0 15).toInt ≤ (eI c 0 14).toInt → (eI c 0 14).toInt ≤ 300 → eI c 0 17 = 2 → (T < (eI c 0 15).toInt ∨ ((eI c 0 15).toInt < (eI c 0 14).toInt ∧ ∃ r, f_X9_in (eA c 0 2 (eI c 0 15).toNatClampNeg) 48 57 = some r ∧ ¬ r = 0)) → (300 - (eI c 0 15).toInt : Int) < m → ok (f_X9_next_232 m c) (fun a => NQ h T a) := by
  intro m
  induction m with
  | zero => intro c n e16 h1 h2 h3 h4 h5 hm; exact absurd hm (by omega)
  | succ m ih =>
    intro c n e16 h1 h2 h3 h4 h5 hm
    rw [f_X9_next_232_s]
    unfold f_X9_next_439 f_X9_next_299
    have z1 : (1 : Int32).toInt = 1 := rfl
    have no : T < (eI c 0 15).toInt → ok (some c) (fun a => NQ h T a) := fun q => ok_some (nq_of n t0 e16 q h2 h3 (fun e => by rw [h4] at e; exact absurd e (by decide)))
    refine ok_if (fun c1 => no ?_) (fun c1 => ?_)
    · have := gi_of_le c1; omega
    have d := gi_of_nle c1
    have a := fb_addI (x := eI c 0 15) (y := 1) (by omega) (by omega)
    refine ok_chk (by omega) ?_
    obtain ⟨r, er, _⟩ := u_X9_in (eA c 0 2 (eI c 0 15).toNatClampNeg) 48 57
    rw [er]
    show ok (if r = 0 then _ else _) _
    have go : ∀ y : Int32, ok (f_X9_next_232 m (sI (sI c 0 18 y) 0 15 (eI c 0 15 + 1))) (fun a => NQ h T a) := by
      intro y
      refine ih _ (NX_sI (NX_sI n (by omega)) (by omega)) e16 ?_ ?_ h3 h4 (Or.inl ?_) ?_
      · show T ≤ (eI c 0 15 + 1).toInt; omega
      · show (eI c 0 15 + 1).toInt ≤ (eI c 0 14).toInt; omega
      · show T < (eI c 0 15 + 1).toInt; omega
      · show (300 - (eI c 0 15 + 1).toInt : Int) < m; omega
    refine ok_if (fun c2 => no ?_) (fun c2 => ?_)
    · rcases h5 with h5 | ⟨_, r2, e2, n2⟩
      · exact h5
      · rw [er] at e2
        cases e2
        exact absurd c2 n2
    exact ok_if (fun c => ok_chk (by omega) (go _)) (fun c => go _)
theorem u_X9_next_99 {h : HS} {T : Int} (t0 : 0 ≤ T) : ∀ (m : Nat) (c : HS) (x2 : Int64) (x4 : Int32), NX h c → (eI c 0 16).toInt = T → T ≤ (eI c 0 15).toInt → (eI c 0 15).toInt ≤ (eI c 0 14).toInt → (eI c 0 14).toInt ≤ 300 → (T < (eI c 0 15).toInt ∨ ((eI c 0 15).toInt < (eI c 0 14).toInt ∧ ∃ r, f_X9_isLetter (eA c 0 2 (eI c 0 15).toNatClampNeg) = some r ∧ ¬ r = 0)) → (300 - (eI c 0 15).toInt : Int) < m → ok (f_X9_next_99 m c x2 x4) (fun a => NQ h T a) := by
  intro m
  induction m with
  | zero => intro c x2 x4 n e16 h1 h2 h3 h5 hm; exact absurd hm (by omega)
  | succ m ih =>
    intro c x2 x4 n e16 h1 h2 h3 h5 hm
    rw [f_X9_next_99_s]
    unfold f_X9_next_156
    have z1 : (1 : Int32).toInt = 1 := rfl; have z0 : (0 : Int32).toInt = 0 := rfl
    have no : T < (eI c 0 15).toInt → ok (f_X9_next_173 c x2 x4) (fun a => NQ h T a) := by
      intro q
      unfold f_X9_next_173 f_X9_next_189 f_X9_next_205 f_X9_next_439
      refine ok_if (fun c1 => ?_) (fun c1 => ?_)
      · refine ok_ob1 (u_X9_wordOf x2) (fun r k => ?_)
        refine ok_if (fun c2 => ?_) (fun c2 => ?_)
        · have d := gi_of_le c2
          refine ok_some (nq_of (NX_sI (NX_sI n (by omega)) (by omega)) t0 e16 q h2 h3 (fun _ => ?_))
          show 0 ≤ r.toInt ∧ r.toInt ≤ 21
          omega
        · exact ok_some (nq_of (NX_sI (NX_sI n (by omega)) (by omega)) t0 e16 q h2 h3 (fun e => absurd e (by show ¬ (4 : Int32) = 1; decide)))
      · refine ok_if (fun c2 => absurd c2 (by decide)) (fun c2 => ?_)
        exact ok_some (nq_of (NX_sI (NX_sI n (by omega)) (by omega)) t0 e16 q h2 h3 (fun e => absurd e (by show ¬ (4 : Int32) = 1; decide)))
    refine ok_if (fun c1 => no ?_) (fun c1 => ?_)
    · have := gi_of_le c1; omega
    have d := gi_of_nle c1
    have a := fb_addI (x := eI c 0 15) (y := 1) (by omega) (by omega)
    refine ok_chk (by omega) ?_
    obtain ⟨r, er, _⟩ := u_X9_isLetter (eA c 0 2 (eI c 0 15).toNatClampNeg)
    rw [er]
    show ok (if r = 0 then _ else _) _
    have go : ∀ (y : Int64) (z : Int32), ok (f_X9_next_99 m (sI c 0 15 (eI c 0 15 + 1)) y z) (fun a => NQ h T a) := by
      intro y z
      refine ih _ y z (NX_sI n (by omega)) e16 ?_ ?_ h3 (Or.inl ?_) ?_
      · show T ≤ (eI c 0 15 + 1).toInt; omega
      · show (eI c 0 15 + 1).toInt ≤ (eI c 0 14).toInt; omega
      · show T < (eI c 0 15 + 1).toInt; omega
      · show (300 - (eI c 0 15 + 1).toInt : Int) < m; omega
    refine ok_if (fun c2 => no ?_) (fun c2 => ?_)
    · rcases h5 with h5 | ⟨_, r2, e2, n2⟩
      · exact h5
      · rw [er] at e2
        cases e2
        exact absurd c2 n2
    exact ok_if (fun c => go _ _) (fun c => ok_chk (by omega) (go _ _))
theorem u_X9_next_52 {h : HS} (c : HS) (n : NX h c) (t0 : 0 ≤ (eI c 0 15).toInt) (h2 : (eI c 0 15).toInt ≤ (eI c 0 14).toInt) (h3 : (eI c 0 14).toInt ≤ 300) : ok (f_X9_next_52 c) (fun a => NQ h (eI c 0 15).toInt a) := by
  unfold f_X9_next_52 f_X9_next_365
  have z1 : (1 : Int32).toInt = 1 := rfl
  have fu : (300 : Int) < ((8589934592 : Nat) : Int) := by omega
  refine ok_if (fun c1 => ?_) (fun c1 => ?_)
  · refine ok_some ⟨NX_sI (NX_sI n (by omega)) (by omega), ⟨t0, ?_, h2, h3, fun e => absurd rfl e, fun e => absurd (show (0 : Int32) = 1 from e) (by decide)⟩, rfl⟩
    show (eI c 0 15).toInt ≤ (eI c 0 15).toInt
    omega
  have d := gi_of_ne c1
  refine ok_chk (by omega) ?_
  have a := fb_addI (x := eI c 0 15) (y := 1) (by omega) (by omega)
  have ch : ∀ x1 y0 v : Int32, ¬ y0 = 1 → ok (f_X9_next_370 (sI (sI (sI c 0 16 (eI c 0 15)) 0 15 (eI c 0 15 + 1)) 0 18 v) x1 y0) (fun a => NQ h (eI c 0 15).toInt a) := by
    intro x1 y0 v hy
    refine u_X9_next_370 _ x1 y0 hy t0 (NX_sI (NX_sI (NX_sI n (by omega)) (by omega)) (by omega)) rfl ?_ ?_ h3
    · show (eI c 0 15).toInt < (eI c 0 15 + 1).toInt; omega
    · show (eI c 0 15 + 1).toInt ≤ (eI c 0 14).toInt; omega
  obtain ⟨r8, e8, _⟩ := u_X9_isLetter (eA c 0 2 (eI c 0 15).toNatClampNeg)
  rw [e8]
  show ok (if r8 = 0 then _ else _) _
  refine ok_if (fun c8 => ?_) (fun c8 => ?_)
  · obtain ⟨r10, e10, _⟩ := u_X9_in (eA c 0 2 (eI c 0 15).toNatClampNeg) 48 57
    rw [e10]
    show ok (if r10 = 0 then _ else _) _
    refine ok_if (fun c10 => ?_) (fun c10 => ?_)
    · refine ok_ob1 (u_X9_in _ 59 62) (fun r12 k12 => ok_if (fun c => ?_) (fun c => ch _ _ _ (by decide)))
      refine ok_ob1 (u_X9_in _ 40 45) (fun r14 k14 => ok_if (fun c => ?_) (fun c => ch _ _ _ (by decide)))
      exact ok_if (fun c => ch _ _ _ (by decide)) (fun c => ok_if (fun c => ch _ _ _ (by decide)) (fun c => ch _ _ _ (by decide)))
    · refine u_X9_next_232 t0 _ _ (NX_sI (NX_sI (NX_sI n (by omega)) (by omega)) (by omega)) rfl ?_ h2 h3 rfl (Or.inr ⟨?_, r10, e10, c10⟩) ?_
      · show (eI c 0 15).toInt ≤ (eI c 0 15).toInt; omega
      · show (eI c 0 15).toInt < (eI c 0 14).toInt; omega
      · show (300 - (eI c 0 15).toInt : Int) < _; omega
  · refine u_X9_next_99 t0 _ _ _ _ (NX_sI n (by omega)) rfl ?_ h2 h3 (Or.inr ⟨?_, r8, e8, c8⟩) ?_
    · show (eI c 0 15).toInt ≤ (eI c 0 15).toInt; omega
    · show (eI c 0 15).toInt < (eI c 0 14).toInt; omega
    · show (300 - (eI c 0 15).toInt : Int) < _; omega
theorem u_X9_next_0 {h : HS} {A : Int} (a0 : 0 ≤ A) : ∀ (m : Nat) (c : HS), NX h c → A ≤ (eI c 0 15).toInt → (eI c 0 15).toInt ≤ (eI c 0 14).toInt → (eI c 0 14).toInt ≤ 300 → (300 - (eI c 0 15).toInt : Int) < m → ok (f_X9_next_0 m c) (fun a => NX h a ∧ LX a ∧ A ≤ (eI a 0 16).toInt) := by
  intro m
  induction m with
  | zero => intro c n h1 h2 h3 hm; exact absurd hm (by omega)
  | succ m ih =>
    intro c n h1 h2 h3 hm
    rw [f_X9_next_0_s]
    unfold f_X9_next_39
    have z1 : (1 : Int32).toInt = 1 := rfl
    have no : ok (f_X9_next_52 c) (fun a => NX h a ∧ LX a ∧ A ≤ (eI a 0 16).toInt) := ok_mono (u_X9_next_52 c n (by omega) h2 h3) (fun a k => ⟨k.1, k.2.1, by rw [k.2.2]; exact h1⟩)
    refine ok_if (fun c1 => no) (fun c1 => ?_)
    have d := gi_of_nle c1
    have a := fb_addI (x := eI c 0 15) (y := 1) (by omega) (by omega)
    have go : ok (f_X9_next_0 m (sI c 0 15 (eI c 0 15 + 1))) (fun a => NX h a ∧ LX a ∧ A ≤ (eI a 0 16).toInt) := by
      refine ih _ (NX_sI n (by omega)) ?_ ?_ h3 ?_
      · show A ≤ (eI c 0 15 + 1).toInt; omega
      · show (eI c 0 15 + 1).toInt ≤ (eI c 0 14).toInt; omega
      · show (300 - (eI c 0 15 + 1).toInt : Int) < m; omega
    exact ok_chk (by omega) (ok_if (fun c => go) (fun c => ok_chk (by omega) (ok_if (fun c => go) (fun c => no))))
theorem u_X9_next (h : HS) (w : 0 ≤ (eI h 0 15).toInt ∧ (eI h 0 15).toInt ≤ (eI h 0 14).toInt ∧ (eI h 0 14).toInt ≤ 300) : ok (f_X9_next h) (fun a => NX h a ∧ LX a ∧ (eI h 0 15).toInt ≤ (eI a 0 16).toInt) := by
  unfold f_X9_next
  refine u_X9_next_0 w.1 _ h (NX_refl h) (by omega) w.2.1 w.2.2 ?_
  omega
theorem u_X9_isSign (h : HS) (p1 : Int32) : ok (f_X9_isSign h p1) (fun a => a.2 = h ∧ (a.1 = 0 ∨ a.1 = 1) ∧ (¬ a.1 = 0 → eI h 0 17 = 3 ∧ eI h 0 18 = p1)) := by
  unfold f_X9_isSign f_X9_isSign_20 f_X9_isSign_21
  have no : ok (if (0 : Int32) = 0 ∨ (0 : Int32) = 1 then some ((0 : Int32), h) else none) (fun a => a.2 = h ∧ (a.1 = 0 ∨ a.1 = 1) ∧ (¬ a.1 = 0 → eI h 0 17 = 3 ∧ eI h 0 18 = p1)) := ok_chk (Or.inl rfl) (ok_some ⟨rfl, Or.inl rfl, fun e => absurd rfl e⟩)
  refine ok_if (fun c1 => ok_if (fun c2 => ?_) (fun c => no)) (fun c => no)
  exact ok_chk (Or.inr rfl) (ok_some ⟨rfl, Or.inr rfl, fun _ => ⟨c1, c2⟩⟩)
theorem u_X9_isWord (h : HS) (p1 : Int32) : ok (f_X9_isWord h p1) (fun a => a.2 = h ∧ (a.1 = 0 ∨ a.1 = 1) ∧ (¬ a.1 = 0 → eI h 0 17 = 1 ∧ eI h 0 18 = p1)) := by
  unfold f_X9_isWord f_X9_isWord_20 f_X9_isWord_21
  have no : ok (if (0 : Int32) = 0 ∨ (0 : Int32) = 1 then some ((0 : Int32), h) else none) (fun a => a.2 = h ∧ (a.1 = 0 ∨ a.1 = 1) ∧ (¬ a.1 = 0 → eI h 0 17 = 1 ∧ eI h 0 18 = p1)) := ok_chk (Or.inl rfl) (ok_some ⟨rfl, Or.inl rfl, fun e => absurd rfl e⟩)
  refine ok_if (fun c1 => ok_if (fun c2 => ?_) (fun c => no)) (fun c => no)
  exact ok_chk (Or.inr rfl) (ok_some ⟨rfl, Or.inr rfl, fun _ => ⟨c1, c2⟩⟩)
theorem u_X9_fault (h : HS) (p1 : Int32) (hI : IM h) : ok (f_X9_fault h p1) (fun a => a.2 = h ∧ True) := by
  unfold f_X9_fault
  refine ok_if (fun c1 => ?_) (fun c1 => ?_)
  · unfold f_X9_fault_24
    exact ok_some ⟨rfl, trivial⟩
  · refine ok_if (fun c2 => ?_) (fun c2 => ?_)
    · unfold f_X9_fault_24
      exact ok_some ⟨rfl, trivial⟩
    · unfold f_X9_fault_24
      exact ok_some ⟨rfl, trivial⟩
theorem ST_push {o v : Int32} {d e : Int} (h : ST o v d e) (c : o = 400) : 0 ≤ d ∧ d < 199 ∧ e = d + 1 := by
  rcases h with ⟨_, h⟩ | ⟨h, _⟩ | ⟨h, _⟩
  · exact h
  · subst c; rcases h with h | h <;> exact absurd h (by decide)
  · exact absurd c h
theorem ST_name {o v : Int32} {d e : Int} (h : ST o v d e) (c : o = 401) : (0 ≤ v.toInt ∧ v.toInt ≤ 8) ∧ 0 ≤ d ∧ d < 199 ∧ e = d + 1 := by
  rcases h with ⟨h1, h⟩ | ⟨h, _⟩ | ⟨_, h, _⟩
  · rcases h1 with h1 | h1
    · subst c; exact absurd h1 (by decide)
    · exact ⟨h1.2, h⟩
  · subst c; rcases h with h | h <;> exact absurd h (by decide)
  · exact absurd c h
theorem ST_un {o v : Int32} {d e : Int} (h : ST o v d e) (c : o = 402 ∨ o = 405) : 1 ≤ d ∧ d < 200 ∧ e = d := by
  rcases h with ⟨h1, _⟩ | ⟨_, h⟩ | ⟨_, _, h2, h5, _⟩
  · rcases c with c | c <;> subst c <;> rcases h1 with h1 | h1
    · exact absurd h1 (by decide)
    · exact absurd h1.1 (by decide)
    · exact absurd h1 (by decide)
    · exact absurd h1.1 (by decide)
  · exact h
  · rcases c with c | c
    · exact absurd c h2
    · exact absurd c h5
theorem ST_bin {o v : Int32} {d e : Int} (h : ST o v d e) (c0 : ¬ o = 400) (c1 : ¬ o = 401) (c2 : ¬ o = 402) (c5 : ¬ o = 405) : 2 ≤ d ∧ d < 200 ∧ e = d - 1 := by
  rcases h with ⟨h1, _⟩ | ⟨h1, _⟩ | ⟨_, _, _, _, _, h⟩
  · rcases h1 with h1 | h1
    · exact absurd h1 c0
    · exact absurd h1.1 c1
  · rcases h1 with h1 | h1
    · exact absurd h1 c2
    · exact absurd h1 c5
  · exact h
theorem ST_ne {o v : Int32} {d e : Int} (h : ST o v d e) : ¬ o = 408 := by
  rcases h with ⟨h1, _⟩ | ⟨h1, _⟩ | ⟨_, _, _, _, h, _⟩
  · rcases h1 with h1 | h1
    · subst h1; decide
    · rw [h1.1]; decide
  · rcases h1 with h1 | h1 <;> subst h1 <;> decide
  · exact h
theorem sm_J {h0 h : HS} {o k : Nat} {x : Nat → Int64} (s : SM h0 h) : SM h0 (sJ h o k x) := s
theorem u_X9_saysOf_4 {h0 : HS} {p n : Nat} {dep : Nat → Int} (hp : p + n < 1600) (he : eA h0 0 12 (p + n) = 408) (hd : ∀ j : Nat, j < n → ST (eA h0 0 12 (p + j)) (eA h0 0 13 (p + j)) (dep j) (dep (j + 1))) : ∀ (m : Nat) (h : HS) (x2 x3 : Int32) (j : Nat), SM h0 h → j ≤ n → x3.toInt = (p : Int) + j → x2.toInt = dep j → n - j < m → ok (f_X9_saysOf_4 m h x2 x3) (fun a => SM h0 a.2 ∧ True) := by
  intro m
  induction m with
  | zero => intro h x2 x3 j s hj e3 e2 hm; exact absurd hm (by omega)
  | succ m ih =>
    intro h x2 x3 j s hj e3 e2 hm
    rw [f_X9_saysOf_4_s, s.2.2.1]
    have ec : x3.toNatClampNeg = p + j := by rw [Int32.toNatClampNeg]; omega
    have z1 : (1 : Int32).toInt = 1 := rfl; have zm : (-1 : Int32).toInt = -1 := rfl
    have a3 := fb_addI (x := x3) (y := 1) (by omega) (by omega)
    rw [ec]
    refine ok_chk (by omega) ?_
    refine ok_if (fun c => ok_some ⟨s, trivial⟩) (fun c8 => ?_)
    have hj2 : j < n := by
      apply Nat.lt_of_le_of_ne hj
      intro e
      subst e
      exact c8 he
    have st := hd j hj2
    unfold f_X9_saysOf_40 f_X9_saysOf_75 f_X9_saysOf_169
    rw [s.2.2.2.1, ec]
    refine ok_chk (by omega) ?_
    refine ok_if (fun c => ?_) (fun c0 => ?_)
    · have k := ST_push st c
      have a2 := fb_addI (x := x2) (y := 1) (by omega) (by omega)
      rw [if_pos c]
      refine ok_chk (by omega) (ok_chk (by omega) ?_)
      exact ih _ (x2 + 1) (x3 + 1) (j + 1) (sm_J s) (by omega) (by omega) (by omega) (by omega)
    refine ok_if (fun c => ?_) (fun c1 => ?_)
    · have k := ST_name st c
      have a2 := fb_addI (x := x2) (y := 1) (by omega) (by omega)
      rw [if_neg c0]
      refine ok_chk (by omega) (ok_chk (by omega) (ok_chk (by omega) ?_))
      exact ih _ (x2 + 1) (x3 + 1) (j + 1) (sm_J s) (by omega) (by omega) (by omega) (by omega)
    refine ok_if (fun c => ?_) (fun c2 => ?_)
    · have k := ST_un st (Or.inl c)
      have a2 := fb_subI (x := x2) (y := 1) (by omega) (by omega)
      refine ok_chk (by omega) (ok_chk (by omega) ?_)
      exact ih _ x2 (x3 + 1) (j + 1) (sm_J s) (by omega) (by omega) (by omega) (by omega)
    refine ok_if (fun c => ?_) (fun c5 => ?_)
    · have k := ST_un st (Or.inr c)
      have a2 := fb_subI (x := x2) (y := 1) (by omega) (by omega)
      refine ok_chk (by omega) (ok_chk (by omega) ?_)
      exact ih _ x2 (x3 + 1) (j + 1) (sm_J s) (by omega) (by omega) (by omega) (by omega)
    have k := ST_bin st c0 c1 c2 c5
    have a1 : (x2 + -1).toInt = x2.toInt - 1 := by rw [fb_addI (by rw [zm]; omega) (by rw [zm]; omega), zm]; rfl
    generalize x2 + -1 = w at *
    have a2 : (w - 1).toInt = w.toInt - 1 := by rw [fb_subI (by rw [z1]; omega) (by rw [z1]; omega), z1]
    generalize w - 1 = w1 at *
    refine ok_chk (by omega) (ok_chk (by omega) ?_)
    refine ok_ob1 (u_X9_worked _ _ _) (fun r10 k10 => ?_)
    refine ok_chk (by omega) ?_
    exact ih _ w (x3 + 1) (j + 1) (sm_J s) (by omega) (by omega) (by omega) (by omega)
theorem u_X9_saysOf (h : HS) (p1 : Int32) (hI : IM h) (w : PR h p1) : ok (f_X9_saysOf h p1) (fun a => SM h a.2 ∧ True) := by
  obtain ⟨w0, n, d, hn, he, dep, d0, _, hd⟩ := w
  unfold f_X9_saysOf
  exact u_X9_saysOf_4 hn he hd _ h 0 p1 0 (SM_refl hI) (by omega) (by omega) (by rw [d0]; rfl) (by omega)
theorem u_X9_by_23 (h : HS) (x1 : Int32) (hI : IM h) (w : -1 ≤ x1.toInt ∧ x1.toInt < (eA h 0 0 3).toInt) : ok (f_X9_by_23 h x1) (fun a => IM a.2) := by
  unfold f_X9_by_23
  have n4 : ∀ j : Nat, ¬ j = 4 → upd (eA h 0 0) 4 x1 j = eA h 0 0 j := fun j hj => by unfold upd; rw [if_neg hj]
  refine ok_some (IM_of (IMO_of (h := h) hI) ⟨?_, GB_shift hI.2.1.2.1 (fun j hj => n4 _ (by omega)), fun s hs => GB_shift (hI.2.1.2.2 s hs) (fun j hj => n4 _ (by omega))⟩)
  obtain ⟨r0, r1, r3, r4, r5⟩ := hI.2.1.1
  exact ⟨r0, r1, r3, w, r5⟩
theorem u_X9_by (h : HS) (p1 : Int32) (hI : IM h) : ok (f_X9_by h p1) (fun a => IM a.2) := by
  unfold f_X9_by
  have hn := IM_n hI
  refine ok_if (fun c => u_X9_by_23 h p1 hI ?_) (fun c => ?_)
  · have := gi_of_eq c; have z : (-1 : Int32).toInt = -1 := rfl; omega
  refine ok_ob1 (u_X9_in p1 0 _) (fun r k => ?_)
  refine ok_if (fun c => ok_some hI) (fun c => u_X9_by_23 h p1 hI ?_)
  have z0 : (0 : Int32).toInt = 0 := rfl; have z1 : (1 : Int32).toInt = 1 := rfl
  have e := fb_subI (x := eA h 0 0 3) (y := 1) (by omega) (by omega)
  have := k.2; have := gi_of_ne c
  omega
theorem u_X9_ordersOf_4 (h : HS) (x1 : Int32) (hI : IM h) (w : x1.toInt ≤ 3) : ∀ (n : Nat) (x2 x3 : Int32), (x2 = -1 ∨ PR h x2) → 0 ≤ x3.toInt → 0 < n → (25 - x3.toInt : Int) < (n : Int) → ok (f_X9_ordersOf_4 n h x1 x2 x3) (fun a => a.2 = h ∧ (a.1 = -1 ∨ PR h a.1)) := by
  intro n
  induction n with
  | zero => intro x2 x3 hx i0 hn hm; exact absurd hn (by decide)
  | succ n ih =>
    intro x2 x3 hx i0 hn hm
    rw [f_X9_ordersOf_4_s]
    have hn := IM_n hI
    unfold f_X9_ordersOf_71
    refine ok_if (fun c => ok_some ⟨rfl, hx⟩) (fun c1 => ?_)
    have d1 := gi_of_ne c1
    have z : (-1 : Int32).toInt = -1 := rfl; have z1 : (1 : Int32).toInt = 1 := rfl
    have e0 : (eA h 0 0 4).toNatClampNeg = (eA h 0 0 4).toInt.toNat := by rw [Int32.toNatClampNeg]
    have tx := hI.2.2.2.1 (eA h 0 0 4).toInt.toNat (by omega)
    refine ok_chk (by omega) ?_
    rw [e0]
    refine ok_if (fun c => ok_some ⟨rfl, hx⟩) (fun c2 => ?_)
    have d2 := gi_of_nle c2
    have e1 : (24 * eA h 0 0 4).toInt = 24 * (eA h 0 0 4).toInt := fb_mulJ rfl (by omega) (by omega)
    have e2 : (24 * eA h 0 0 4 + x3).toInt = (24 * eA h 0 0 4).toInt + x3.toInt := fb_addI (by omega) (by omega)
    have e3 : (24 * eA h 0 0 4 + x3).toNatClampNeg = 24 * (eA h 0 0 4).toInt.toNat + x3.toInt.toNat := by rw [Int32.toNatClampNeg]; omega
    have e4 := fb_addI (x := x3) (y := 1) (by omega) (by omega)
    refine ok_chk (by omega) ?_
    rw [e3]
    refine ok_if (fun c => ?_) (fun c => ?_)
    · refine ok_chk (by omega) ?_
      unfold f_X9_ordersOf_64
      refine ih _ (x3 + 1) (Or.inr (PT_PR (by omega) (tx.2 _ (by omega) ?_))) (by omega) (by omega) (by omega)
      rw [c]; exact w
    · unfold f_X9_ordersOf_64
      exact ih x2 (x3 + 1) hx (by omega) (by omega) (by omega)
theorem u_X9_ordersOf (h : HS) (p1 : Int32) (hI : IM h) (w0 : p1.toInt ≤ 3) : ok (f_X9_ordersOf h p1) (fun a => a.2 = h ∧ (a.1 = -1 ∨ PR h a.1)) := by
  unfold f_X9_ordersOf
  exact u_X9_ordersOf_4 h p1 hI w0 _ _ _ (Or.inl rfl) (by decide) (by decide) (by have : (0 : Int32).toInt = 0 := rfl; omega)
theorem u_X9_names (h : HS) (p1 : Int32) (p2 : Int32) (p3 : Int32) (p4 : Int32) (hI : IM h) (w0 : 0 ≤ p1.toInt ∧ p1.toInt ≤ 9) : ok (f_X9_names h p1 p2 p3 p4) (fun a => SM h a ∧ True) := by
  unfold f_X9_names
  refine ok_ob2 (u_X9_ofGoose (sA h 0 39 (upd (eA h 0 39) 0 p1)) p1 0 ((SM_refl hI)).1 (by have := w0; have := fb_rng (p1); omega) (by have := w0; have : (0 : Int32).toInt = 0 := rfl; omega)) (fun r1 h1 k1 => ?_)
  have e1 : (sA h 0 39 (upd (eA h 0 39) 0 p1)) = h1 := k1.1.symm
  subst e1
  refine ok_ob2 (u_X9_ofGoose (sA (sA h 0 39 (upd (eA h 0 39) 0 p1)) 0 39 (upd (eA (sA h 0 39 (upd (eA h 0 39) 0 p1)) 0 39) 1 r1)) p1 1 ((SM_refl hI)).1 (by have := w0; have := fb_rng (p1); omega) (by have := w0; have : (1 : Int32).toInt = 1 := rfl; omega)) (fun r2 h2 k2 => ?_)
  have e2 : (sA (sA h 0 39 (upd (eA h 0 39) 0 p1)) 0 39 (upd (eA (sA h 0 39 (upd (eA h 0 39) 0 p1)) 0 39) 1 r1)) = h2 := k2.1.symm
  subst e2
  exact ok_some ⟨(SM_refl hI), trivial⟩
theorem PR_sm {h c : HS} (s : SM h c) {x : Int32} (p : PR h x) : PR c x := by
  unfold PR at *
  rw [s.2.2.1, s.2.2.2.1]; exact p
theorem u_X9_inkOf (h : HS) (p1 p2 p3 : Int32) (hI : IM h) (w0 : 0 ≤ p1.toInt ∧ p1.toInt ≤ 9) : ok (f_X9_inkOf h p1 p2 p3) (fun a => SM h a.2 ∧ True) := by
  unfold f_X9_inkOf
  refine ok_ob2 (u_X9_ordersOf h 2 hI (by decide)) (fun r1 h1 k1 => ?_)
  have e1 : h = h1 := k1.1.symm
  subst e1
  refine ok_if (fun c => ok_some ⟨SM_refl hI, trivial⟩) (fun c => ?_)
  have pr : PR h r1 := k1.2.resolve_left c
  refine ok_ob1 (u_X9_names h p1 p2 p3 _ hI w0) (fun h3 k3 => ?_)
  refine ok_ob2 (u_X9_saysOf h3 r1 k3.1.1 (PR_sm k3.1 pr)) (fun r4 h4 k4 => ?_)
  have s4 := SM_trans k3.1 k4.1
  exact ok_ob1 (u_X9_held r4 0 99) (fun r5 k5 => ok_some ⟨s4, trivial⟩)
theorem u_X9_ink (h : HS) (p1 : Int32) (p2 : Int32) (p3 : Int32) (hI : IM h) : ok (f_X9_ink h p1 p2 p3) (fun a => SM h a.2 ∧ True) := by
  unfold f_X9_ink
  refine ok_ob2 (u_X9_isGoose h p1 ((SM_refl hI)).1) (fun r1 h1 k1 => ?_)
  have e1 : h = h1 := k1.1.symm
  subst e1
  refine ok_if (fun c2 => ?_) (fun c2 => ?_)
  · unfold f_X9_ink_26
    unfold f_X9_ink_27
    exact ok_some ⟨(SM_refl hI), trivial⟩
  · refine ok_ob1 (u_X9_isQuill p2 p3) (fun r3 k3 => ?_)
    refine ok_if (fun c4 => ?_) (fun c4 => ?_)
    · unfold f_X9_ink_26
      unfold f_X9_ink_27
      exact ok_some ⟨(SM_refl hI), trivial⟩
    · refine ok_ob2 (u_X9_inkOf h p1 p2 p3 ((SM_refl hI)).1 (by have := IM_n (SM_refl hI).1; have : ((r1).toInt = 0 ∨ (0 ≤ p1.toInt ∧ p1.toInt < ((eA h 0 0) 1).toInt)) := k1.2.2; have : ((r3).toInt = 0 ∨ ((0 ≤ p2.toInt ∧ p2.toInt ≤ 5) ∧ (0 ≤ p3.toInt ∧ p3.toInt ≤ 2))) := k3.2; have := gi_of_ne c2; have : (0 : Int32).toInt = 0 := rfl; have := fb_rng (r1); have := fb_rng (p1); omega)) (fun r5 h5 k5 => ?_)
      have s5 : SM h h5 := SM_trans (b := h) (SM_refl hI) k5.1
      unfold f_X9_ink_27
      exact ok_some ⟨s5, trivial⟩
set_option maxHeartbeats 4000000 in
theorem u_X9_fill (h : HS) (p1 p2 p3 : Int32) (hI : IM h) : ok (f_X9_fill h p1 p2 p3) (fun a => SW h a.2 ∧ True) := by
  unfold f_X9_fill f_X9_fill_43
  refine ok_ob2 (u_X9_isHome h p1 hI) (fun r1 h1 k1 => ?_)
  have e1 : h = h1 := k1.1.symm
  subst e1
  refine ok_if (fun c => ok_some ⟨SW_refl hI, trivial⟩) (fun c1 => ?_)
  have hn := IM_n hI
  have q1 : r1.toInt = 0 ∨ (0 ≤ p1.toInt ∧ p1.toInt < (eA h 0 0 1).toInt) := k1.2.2
  have d1 := gi_of_ne c1
  have z0 : (0 : Int32).toInt = 0 := rfl
  have w : 0 ≤ p1.toInt ∧ p1.toInt ≤ 9 := by omega
  refine ok_ob2 (u_X9_ofGoose h p1 2 hI w (by decide)) (fun r3 h3 k3 => ?_)
  have e1 : h = h3 := k3.1.symm
  subst e1
  refine ok_if (fun c3 => ?_) (fun c => ok_some ⟨SW_refl hI, trivial⟩)
  refine ok_ob1 (u_X9_isQuill p2 p3) (fun r5 k5 => ?_)
  refine ok_if (fun c => ok_some ⟨SW_refl hI, trivial⟩) (fun c5 => ?_)
  have q5 := k5.2; have d5 := gi_of_ne c5
  refine ok_ob2 (u_X9_inkOf h p1 p2 p3 hI w) (fun r7 h7 k7 => ?_)
  refine ok_if (fun c7 => ?_) (fun c => ok_some ⟨SM_SW k7.1, trivial⟩)
  refine ok_ob2 (u_X9_inkOf h7 p1 p2 p3 k7.1.1 w) (fun r9 h9 k9 => ?_)
  have s9 := SM_SW (SM_trans k7.1 k9.1)
  refine ok_ob1 (u_X9_keepsStep h9 s9.1) (fun h10 k10 => ?_)
  have s10 := SW_trans s9 k10.1
  have r10 := s10.1.2.1
  have i2 := ix9 (p1 := p1) (p2 := 2) w (by decide); have i3 := ix9 (p1 := p1) (p2 := 3) w (by decide)
  have z2 : (2 : Int32).toInt = 2 := rfl; have z3 : (3 : Int32).toInt = 3 := rfl
  rw [z2] at i2; rw [z3] at i3
  unfold f_X9_puts
  refine ok_ob1 (P := fun a => a = sA h10 0 0 (upd (eA h10 0 0) (30 + 9 * p1 + 2).toNatClampNeg p2)) (ok_chk (by omega) (ok_some rfl)) (fun h11 k11 => ?_)
  subst k11
  refine ok_ob1 (P := fun a => a = sA (sA h10 0 0 (upd (eA h10 0 0) (30 + 9 * p1 + 2).toNatClampNeg p2)) 0 0 (upd (upd (eA h10 0 0) (30 + 9 * p1 + 2).toNatClampNeg p2) (30 + 9 * p1 + 3).toNatClampNeg p3)) (ok_chk (by omega) (ok_some rfl)) (fun h12 k12 => ?_)
  subst k12
  refine ok_some ⟨?_, trivial⟩
  show SW h (sA _ 0 0 (upd (upd (upd (eA h10 0 0) (30 + 9 * p1 + 2).toNatClampNeg p2) (30 + 9 * p1 + 3).toNatClampNeg p3) 120 _))
  rw [i2.2, i3.2]
  have t2 : (2 : Int).toNat = 2 := rfl; have t3 : (3 : Int).toNat = 3 := rfl
  rw [t2, t3]
  have lo : ∀ j : Nat, (j < 30 ∨ 120 ≤ j) → upd (upd (eA h10 0 0) (30 + 9 * p1.toInt.toNat + 2) p2) (30 + 9 * p1.toInt.toNat + 3) p3 j = eA h10 0 0 j := by
    intro j hj
    simp only [upd]
    rw [if_neg (by omega), if_neg (by omega)]
  have rr : RO (upd (upd (eA h10 0 0) (30 + 9 * p1.toInt.toNat + 2) p2) (30 + 9 * p1.toInt.toNat + 3) p3) := by
    refine ⟨RC_congr5 r10.1 (lo 0 (by omega)) (lo 1 (by omega)) (lo 3 (by omega)) (lo 4 (by omega)) (lo 5 (by omega)), ?_, fun s hs => GB_shift (r10.2.2 s hs) (fun j hj => lo _ (by omega))⟩
    intro g hg
    have k := r10.2.1 g hg
    by_cases e : g = p1.toInt.toNat
    · subst e
      simp only [upd]
      rw [if_neg (c := 30 + 9 * p1.toInt.toNat + 1 = 30 + 9 * p1.toInt.toNat + 3) (by omega), if_neg (c := 30 + 9 * p1.toInt.toNat + 1 = 30 + 9 * p1.toInt.toNat + 2) (by omega), if_pos trivial, if_neg (c := 30 + 9 * p1.toInt.toNat + 5 = 30 + 9 * p1.toInt.toNat + 3) (by omega), if_neg (c := 30 + 9 * p1.toInt.toNat + 5 = 30 + 9 * p1.toInt.toNat + 2) (by omega)]
      exact ⟨k.1, by omega, Or.inr (by omega), k.2.2.2⟩
    · simp only [upd]
      rw [if_neg (c := 30 + 9 * g + 1 = 30 + 9 * p1.toInt.toNat + 3) (by omega), if_neg (c := 30 + 9 * g + 1 = 30 + 9 * p1.toInt.toNat + 2) (by omega), if_neg (c := 30 + 9 * g + 3 = 30 + 9 * p1.toInt.toNat + 3) (by omega), if_neg (c := 30 + 9 * g + 3 = 30 + 9 * p1.toInt.toNat + 2) (by omega), if_neg (c := 30 + 9 * g + 2 = 30 + 9 * p1.toInt.toNat + 3) (by omega), if_neg (c := 30 + 9 * g + 2 = 30 + 9 * p1.toInt.toNat + 2) (by omega), if_neg (c := 30 + 9 * g + 5 = 30 + 9 * p1.toInt.toNat + 3) (by omega), if_neg (c := 30 + 9 * g + 5 = 30 + 9 * p1.toInt.toNat + 2) (by omega)]
      exact k
  have rf := RO_free (i := 120) (v := upd (upd (eA h10 0 0) (30 + 9 * p1.toInt.toNat + 2) p2) (30 + 9 * p1.toInt.toNat + 3) p3 120 - r9) rr (by decide)
  exact ⟨IM_of (IMO_of (h := h10) s10.1) rf, (lo 0 (by omega)).trans s10.2.1, (lo 1 (by omega)).trans s10.2.2.1, (lo 3 (by omega)).trans s10.2.2.2⟩
theorem u_X9_send (h : HS) (p1 : Int32) (p2 : Int32) (hI : IM h) : ok (f_X9_send h p1 p2) (fun a => SW h a.2 ∧ True) := by
  unfold f_X9_send
  refine ok_ob2 (u_X9_isHome h p1 ((SW_refl hI)).1) (fun r1 h1 k1 => ?_)
  have e1 : h = h1 := k1.1.symm
  subst e1
  refine ok_if (fun c2 => ?_) (fun c2 => ?_)
  · unfold f_X9_send_27
    exact ok_some ⟨(SW_refl hI), trivial⟩
  · refine ok_ob2 (u_X9_ofGoose h p1 8 ((SW_refl hI)).1 (by have := IM_n (SW_refl hI).1; have : ((r1).toInt = 0 ∨ (0 ≤ p1.toInt ∧ p1.toInt < ((eA h 0 0) 1).toInt)) := k1.2.2; have := gi_of_ne c2; have : (0 : Int32).toInt = 0 := rfl; have := fb_rng (r1); have := fb_rng (p1); omega) (by have := IM_n (SW_refl hI).1; have : ((r1).toInt = 0 ∨ (0 ≤ p1.toInt ∧ p1.toInt < ((eA h 0 0) 1).toInt)) := k1.2.2; have : (8 : Int32).toInt = 8 := rfl; omega)) (fun r3 h3 k3 => ?_)
    have e3 : h = h3 := k3.1.symm
    subst e3
    refine ok_if (fun c4 => ?_) (fun c4 => ?_)
    · unfold f_X9_send_27
      exact ok_some ⟨(SW_refl hI), trivial⟩
    · refine ok_ob2 (u_X9_isMarket h p2 ((SW_refl hI)).1) (fun r5 h5 k5 => ?_)
      have e5 : h = h5 := k5.1.symm
      subst e5
      refine ok_if (fun c6 => ?_) (fun c6 => ?_)
      · unfold f_X9_send_27
        exact ok_some ⟨(SW_refl hI), trivial⟩
      · refine ok_ob1 (u_X9_keepsStep h ((SW_refl hI)).1) (fun h7 k7 => ?_)
        have s7 : SW h h7 := SW_trans (b := h) (SW_refl hI) k7.1
        refine ok_ob1 (u_X9_puts h7 p1 4 1 (s7).1 (by have := IM_n (SW_refl hI).1; have : ((r1).toInt = 0 ∨ (0 ≤ p1.toInt ∧ p1.toInt < ((eA h 0 0) 1).toInt)) := k1.2.2; have : ((r5).toInt = 0 ∨ (0 ≤ p2.toInt ∧ p2.toInt < ((eA h 0 0) 0).toInt)) := k5.2.2; have := gi_of_ne c2; have : (0 : Int32).toInt = 0 := rfl; have := fb_rng (r1); have := fb_rng (p1); omega) (by decide) (fun e => absurd e (by decide)) (fun e => absurd e (by decide))) (fun h8 k8 => ?_)
        have s8 : SW h h8 := SW_trans (b := h7) s7 k8.1
        refine ok_ob1 (u_X9_puts h8 p1 5 p2 (s8).1 (by have := IM_n (SW_refl hI).1; have : ((r1).toInt = 0 ∨ (0 ≤ p1.toInt ∧ p1.toInt < ((eA h 0 0) 1).toInt)) := k1.2.2; have : ((r5).toInt = 0 ∨ (0 ≤ p2.toInt ∧ p2.toInt < ((eA h 0 0) 0).toInt)) := k5.2.2; have := gi_of_ne c2; have : (0 : Int32).toInt = 0 := rfl; have := fb_rng (r1); have := fb_rng (p1); omega) (by decide) (fun _ => by have := IM_n (SW_refl hI).1; have : ((r1).toInt = 0 ∨ (0 ≤ p1.toInt ∧ p1.toInt < ((eA h 0 0) 1).toInt)) := k1.2.2; have : ((r5).toInt = 0 ∨ (0 ≤ p2.toInt ∧ p2.toInt < ((eA h 0 0) 0).toInt)) := k5.2.2; have := gi_of_ne c6; have : (0 : Int32).toInt = 0 := rfl; have := fb_rng (r5); have := fb_rng (p2); omega) (fun e => absurd e (by decide))) (fun h9 k9 => ?_)
        have s9 : SW h h9 := SW_trans (b := h8) s8 k9.1
        refine ok_chk (by have := IM_n (SW_refl hI).1; have : ((r1).toInt = 0 ∨ (0 ≤ p1.toInt ∧ p1.toInt < ((eA h 0 0) 1).toInt)) := k1.2.2; have : ((r5).toInt = 0 ∨ (0 ≤ p2.toInt ∧ p2.toInt < ((eA h 0 0) 0).toInt)) := k5.2.2; have := gi_of_ne c6; have : (0 : Int32).toInt = 0 := rfl; have : (10 : Int32).toInt = 10 := rfl; have : (3 : Int32).toInt = 3 := rfl; have := fb_rng (r5); have := fb_rng (p2); (try have := fb_mulJ (x := 3) (y := p2) (k := 3) rfl (by omega) (by omega)); (try have := fb_addI (x := 10) (y := (3 * p2)) (by omega) (by omega)); omega) ?_
        refine ok_ob1 (u_X9_puts h9 p1 6 (((eA h9 0 0) 121) + ((eA h9 0 0) (((10 + (3 * p2))).toNatClampNeg))) (s9).1 (by have := IM_n (SW_refl hI).1; have : ((r1).toInt = 0 ∨ (0 ≤ p1.toInt ∧ p1.toInt < ((eA h 0 0) 1).toInt)) := k1.2.2; have : ((r5).toInt = 0 ∨ (0 ≤ p2.toInt ∧ p2.toInt < ((eA h 0 0) 0).toInt)) := k5.2.2; have := gi_of_ne c2; have : (0 : Int32).toInt = 0 := rfl; have := fb_rng (r1); have := fb_rng (p1); omega) (by decide) (fun e => absurd e (by decide)) (fun e => absurd e (by decide))) (fun h11 k11 => ?_)
        have s11 : SW h h11 := SW_trans (b := h9) s9 k11.1
        refine ok_ob2 (u_X9_ofGoose h11 p1 6 (s11).1 (by have := IM_n (SW_refl hI).1; have : ((r1).toInt = 0 ∨ (0 ≤ p1.toInt ∧ p1.toInt < ((eA h 0 0) 1).toInt)) := k1.2.2; have : ((r5).toInt = 0 ∨ (0 ≤ p2.toInt ∧ p2.toInt < ((eA h 0 0) 0).toInt)) := k5.2.2; have := gi_of_ne c2; have : (0 : Int32).toInt = 0 := rfl; have := fb_rng (r1); have := fb_rng (p1); omega) (by have := IM_n (SW_refl hI).1; have : ((r1).toInt = 0 ∨ (0 ≤ p1.toInt ∧ p1.toInt < ((eA h 0 0) 1).toInt)) := k1.2.2; have : ((r5).toInt = 0 ∨ (0 ≤ p2.toInt ∧ p2.toInt < ((eA h 0 0) 0).toInt)) := k5.2.2; have : (6 : Int32).toInt = 6 := rfl; omega)) (fun r12 h12 k12 => ?_)
        have e12 : h11 = h12 := k12.1.symm
        subst e12
        exact ok_some ⟨s11, trivial⟩
theorem u_X9_fatten (h : HS) (p1 : Int32) (hI : IM h) : ok (f_X9_fatten h p1) (fun a => SW h a.2 ∧ True) := by
  unfold f_X9_fatten
  refine ok_ob2 (u_X9_isHome h p1 ((SW_refl hI)).1) (fun r1 h1 k1 => ?_)
  have e1 : h = h1 := k1.1.symm
  subst e1
  refine ok_if (fun c2 => ?_) (fun c2 => ?_)
  · unfold f_X9_fatten_29
    exact ok_some ⟨(SW_refl hI), trivial⟩
  · refine ok_ob2 (u_X9_ofGoose h p1 0 ((SW_refl hI)).1 (by have := IM_n (SW_refl hI).1; have : ((r1).toInt = 0 ∨ (0 ≤ p1.toInt ∧ p1.toInt < ((eA h 0 0) 1).toInt)) := k1.2.2; have := gi_of_ne c2; have : (0 : Int32).toInt = 0 := rfl; have := fb_rng (r1); have := fb_rng (p1); omega) (by have := IM_n (SW_refl hI).1; have : ((r1).toInt = 0 ∨ (0 ≤ p1.toInt ∧ p1.toInt < ((eA h 0 0) 1).toInt)) := k1.2.2; have : (0 : Int32).toInt = 0 := rfl; omega)) (fun r3 h3 k3 => ?_)
    have e3 : h = h3 := k3.1.symm
    subst e3
    refine ok_if (fun c4 => ?_) (fun c4 => ?_)
    · unfold f_X9_fatten_29
      exact ok_some ⟨(SW_refl hI), trivial⟩
    · refine ok_if (fun c5 => ?_) (fun c5 => ?_)
      · unfold f_X9_fatten_29
        exact ok_some ⟨(SW_refl hI), trivial⟩
      · refine ok_ob1 (u_X9_keepsStep h ((SW_refl hI)).1) (fun h6 k6 => ?_)
        have s6 : SW h h6 := SW_trans (b := h) (SW_refl hI) k6.1
        refine ok_ob2 (u_X9_ofGoose h6 p1 0 (s6).1 (by have := IM_n (SW_refl hI).1; have : ((r1).toInt = 0 ∨ (0 ≤ p1.toInt ∧ p1.toInt < ((eA h 0 0) 1).toInt)) := k1.2.2; have := gi_of_ne c2; have : (0 : Int32).toInt = 0 := rfl; have := fb_rng (r1); have := fb_rng (p1); omega) (by have := IM_n (SW_refl hI).1; have : ((r1).toInt = 0 ∨ (0 ≤ p1.toInt ∧ p1.toInt < ((eA h 0 0) 1).toInt)) := k1.2.2; have : (0 : Int32).toInt = 0 := rfl; omega)) (fun r7 h7 k7 => ?_)
        have e7 : h6 = h7 := k7.1.symm
        subst e7
        refine ok_ob1 (u_X9_puts h6 p1 0 (r7 + 1) (s6).1 (by have := IM_n (SW_refl hI).1; have : ((r1).toInt = 0 ∨ (0 ≤ p1.toInt ∧ p1.toInt < ((eA h 0 0) 1).toInt)) := k1.2.2; have := gi_of_ne c2; have : (0 : Int32).toInt = 0 := rfl; have := fb_rng (r1); have := fb_rng (p1); omega) (by decide) (fun e => absurd e (by decide)) (fun e => absurd e (by decide))) (fun h8 k8 => ?_)
        have s8 : SW h h8 := SW_trans (b := h6) s6 k8.1
        refine ok_ob2 (u_X9_ofGoose (sA h8 0 0 (upd (eA h8 0 0) 120 (((eA h8 0 0) 120) - 1))) p1 0 ((sw_row (c := h8) (f := (upd (eA h8 0 0) 120 (((eA h8 0 0) 120) - 1))) s8 (RO_free (i := 120) (v := (((eA h8 0 0) 120) - 1)) s8.1.2.1 (by decide)) rfl rfl rfl)).1 (by have := IM_n (SW_refl hI).1; have : ((r1).toInt = 0 ∨ (0 ≤ p1.toInt ∧ p1.toInt < ((eA h 0 0) 1).toInt)) := k1.2.2; have := gi_of_ne c2; have : (0 : Int32).toInt = 0 := rfl; have := fb_rng (r1); have := fb_rng (p1); omega) (by have := IM_n (SW_refl hI).1; have : ((r1).toInt = 0 ∨ (0 ≤ p1.toInt ∧ p1.toInt < ((eA h 0 0) 1).toInt)) := k1.2.2; have : (0 : Int32).toInt = 0 := rfl; omega)) (fun r9 h9 k9 => ?_)
        have e9 : (sA h8 0 0 (upd (eA h8 0 0) 120 (((eA h8 0 0) 120) - 1))) = h9 := k9.1.symm
        subst e9
        exact ok_some ⟨(sw_row (c := h8) (f := (upd (eA h8 0 0) 120 (((eA h8 0 0) 120) - 1))) s8 (RO_free (i := 120) (v := (((eA h8 0 0) 120) - 1)) s8.1.2.1 (by decide)) rfl rfl rfl), trivial⟩
theorem ok_ob2e9 {α β γ : Type} {x : Option (α × β)} {g : α → β → Option γ} {Q : γ → Prop} {a : α} {b : β} (e : x = some (a, b)) (k : ok (g a b) Q) : ok (ob2 x g) Q := by
  subst e
  exact k
theorem u_X9_pluck (h : HS) (p1 : Int32) (hI : IM h) : ok (f_X9_pluck h p1) (fun a => SW h a.2 ∧ True) := by
  unfold f_X9_pluck f_X9_pluck_17
  refine ok_ob2 (u_X9_isHome h p1 hI) (fun r1 h1 k1 => ?_)
  have e1 : h = h1 := k1.1.symm
  subst e1
  refine ok_if (fun c => ok_some ⟨SW_refl hI, trivial⟩) (fun c1 => ?_)
  have hn := IM_n hI
  have q1 : r1.toInt = 0 ∨ (0 ≤ p1.toInt ∧ p1.toInt < (eA h 0 0 1).toInt) := k1.2.2
  have d1 := gi_of_ne c1
  have z0 : (0 : Int32).toInt = 0 := rfl; have z1 : (1 : Int32).toInt = 1 := rfl
  have w : 0 ≤ p1.toInt ∧ p1.toInt ≤ 9 := by omega
  have ix := ix9 (p1 := p1) (p2 := 1) w (by decide)
  rw [z1] at ix
  have t1 : (1 : Int).toNat = 1 := rfl
  rw [t1] at ix
  have gb := hI.2.1.2.1 p1.toInt.toNat (by omega)
  have e3 : f_X9_ofGoose h p1 1 = some (eA h 0 0 (30 + 9 * p1.toInt.toNat + 1), h) := by
    unfold f_X9_ofGoose
    rw [if_pos (by omega), ix.2]
  refine ok_ob2e9 e3 ?_
  refine ok_if (fun c => ok_some ⟨SW_refl hI, trivial⟩) (fun c3 => ?_)
  have d3 := gi_of_ne c3
  refine ok_ob1 (u_X9_keepsStep h hI) (fun h5 k5 => ?_)
  have e6 : f_X9_ofGoose h5 p1 1 = some (eA h 0 0 (30 + 9 * p1.toInt.toNat + 1), h5) := by
    unfold f_X9_ofGoose
    rw [if_pos (by omega), ix.2, k5.2 _ (by omega) (by omega)]
  refine ok_ob2e9 e6 ?_
  have e7 := fb_subI (x := eA h 0 0 (30 + 9 * p1.toInt.toNat + 1)) (y := 1) (by omega) (by omega)
  refine ok_ob1 (u_X9_puts h5 p1 1 _ k5.1.1 w (by decide) (fun e => absurd e (by decide)) (fun e => by omega)) (fun h7 k7 => ?_)
  have s7 := SW_trans k5.1 k7.1
  refine ok_ob2 (u_X9_ofGoose h7 p1 1 s7.1 w (by decide)) (fun r8 h8 k8 => ?_)
  have e8 : h7 = h8 := k8.1.symm
  subst e8
  exact ok_some ⟨s7, trivial⟩
theorem u_X9_name (h : HS) (p1 : Int32) (hI : IM h) : ok (f_X9_name h p1) (fun a => SW h a.2 ∧ (a.1 = 0 ∨ a.1 = 1)) := by
  unfold f_X9_name
  refine ok_ob2 (u_X9_isHome h p1 ((SW_refl hI)).1) (fun r1 h1 k1 => ?_)
  have e1 : h = h1 := k1.1.symm
  subst e1
  refine ok_if (fun c2 => ?_) (fun c2 => ?_)
  · unfold f_X9_name_19
    exact ok_some ⟨(SW_refl hI), (Or.inl rfl)⟩
  · refine ok_ob2 (u_X9_ofGoose h p1 8 ((SW_refl hI)).1 (by have := IM_n (SW_refl hI).1; have : ((r1).toInt = 0 ∨ (0 ≤ p1.toInt ∧ p1.toInt < ((eA h 0 0) 1).toInt)) := k1.2.2; have := gi_of_ne c2; have : (0 : Int32).toInt = 0 := rfl; have := fb_rng (r1); have := fb_rng (p1); omega) (by have := IM_n (SW_refl hI).1; have : ((r1).toInt = 0 ∨ (0 ≤ p1.toInt ∧ p1.toInt < ((eA h 0 0) 1).toInt)) := k1.2.2; have : (8 : Int32).toInt = 8 := rfl; omega)) (fun r3 h3 k3 => ?_)
    have e3 : h = h3 := k3.1.symm
    subst e3
    refine ok_if (fun c4 => ?_) (fun c4 => ?_)
    · unfold f_X9_name_19
      exact ok_some ⟨(SW_refl hI), (Or.inl rfl)⟩
    · refine ok_ob1 (u_X9_keepsStep h ((SW_refl hI)).1) (fun h5 k5 => ?_)
      have s5 : SW h h5 := SW_trans (b := h) (SW_refl hI) k5.1
      refine ok_ob1 (u_X9_puts h5 p1 8 1 (s5).1 (by have := IM_n (SW_refl hI).1; have : ((r1).toInt = 0 ∨ (0 ≤ p1.toInt ∧ p1.toInt < ((eA h 0 0) 1).toInt)) := k1.2.2; have := gi_of_ne c2; have : (0 : Int32).toInt = 0 := rfl; have := fb_rng (r1); have := fb_rng (p1); omega) (by decide) (fun e => absurd e (by decide)) (fun e => absurd e (by decide))) (fun h6 k6 => ?_)
      have s6 : SW h h6 := SW_trans (b := h5) s5 k6.1
      exact ok_some ⟨s6, (Or.inr rfl)⟩
theorem u_X9_marketTells (h : HS) (p1 p2 p3 p4 p5 p6 : Int32) (hI : IM h) (w1 : p1.toInt ≤ 3) (w0 : 0 ≤ p2.toInt ∧ p2.toInt ≤ 9) (w2 : -1 ≤ p5.toInt ∧ p5.toInt ≤ 3) : ok (f_X9_marketTells h p1 p2 p3 p4 p5 p6) (fun a => SM h a.2 ∧ True) := by
  unfold f_X9_marketTells f_X9_marketTells_56
  have z10 : (10 : Int32).toInt = 10 := rfl; have z1 : (1 : Int32).toInt = 1 := rfl; have z2 : (2 : Int32).toInt = 2 := rfl
  have e1 : (3 * p5).toInt = 3 * p5.toInt := fb_mulJ rfl (by omega) (by omega)
  have e2 : (10 + 3 * p5).toInt = (10 : Int32).toInt + (3 * p5).toInt := fb_addI (by omega) (by omega)
  have e3 : (10 + 3 * p5 + 1).toInt = (10 + 3 * p5).toInt + (1 : Int32).toInt := fb_addI (by omega) (by omega)
  have e4 : (10 + 3 * p5 + 2).toInt = (10 + 3 * p5).toInt + (2 : Int32).toInt := fb_addI (by omega) (by omega)
  refine ok_chk (by omega) (ok_chk (by omega) ?_)
  refine ok_ob2 (u_X9_ordersOf h p1 hI w1) (fun r1 h1 k1 => ?_)
  have e1 : h = h1 := k1.1.symm
  subst e1
  refine ok_if (fun c => ?_) (fun c => ?_)
  · exact ok_if (fun c => ok_some ⟨SM_refl hI, trivial⟩) (fun c => ok_some ⟨SM_refl hI, trivial⟩)
  have pr : PR h r1 := k1.2.resolve_left c
  refine ok_ob1 (u_X9_names h p2 p3 p4 _ hI w0) (fun h3 k3 => ?_)
  refine ok_ob2 (u_X9_saysOf _ r1 (show IM _ from k3.1.1) (show PR _ _ from PR_sm k3.1 pr)) (fun r4 h4 k4 => ?_)
  have s4 : SM h h4 := SM_trans k3.1 k4.1
  exact ok_ob1 (u_X9_held r4 0 10) (fun r5 k5 => ok_some ⟨s4, trivial⟩)
theorem u_X9_marketOf (h : HS) (p1 : Int32) (p2 : Int32) (hI : IM h) (w1 : p1.toInt ≤ 3) (w0 : 0 ≤ p2.toInt ∧ p2.toInt ≤ 9) : ok (f_X9_marketOf h p1 p2) (fun a => SM h a.2 ∧ True) := by
  unfold f_X9_marketOf
  refine ok_ob2 (u_X9_ofGoose h p2 2 ((SM_refl hI)).1 (by have := w1; have := w0; have := fb_rng (p2); omega) (by have := w1; have := w0; have : (2 : Int32).toInt = 2 := rfl; omega)) (fun r1 h1 k1 => ?_)
  have e1 : h = h1 := k1.1.symm
  subst e1
  refine ok_ob2 (u_X9_ofGoose h p2 3 ((SM_refl hI)).1 (by have := w1; have := w0; have := fb_rng (p2); omega) (by have := w1; have := w0; have : (3 : Int32).toInt = 3 := rfl; omega)) (fun r2 h2 k2 => ?_)
  have e2 : h = h2 := k2.1.symm
  subst e2
  refine ok_ob2 (u_X9_ofGoose h p2 5 ((SM_refl hI)).1 (by have := w1; have := w0; have : -1 ≤ r2.toInt ∧ r2.toInt ≤ 2 := k2.2.2.1 rfl; have := fb_rng (p2); omega) (by have := w1; have := w0; have : -1 ≤ r2.toInt ∧ r2.toInt ≤ 2 := k2.2.2.1 rfl; have : (5 : Int32).toInt = 5 := rfl; omega)) (fun r3 h3 k3 => ?_)
  have e3 : h = h3 := k3.1.symm
  subst e3
  refine ok_ob2 (u_X9_ofGoose h p2 6 ((SM_refl hI)).1 (by have := w1; have := w0; have : -1 ≤ r2.toInt ∧ r2.toInt ≤ 2 := k2.2.2.1 rfl; have : -1 ≤ r3.toInt ∧ r3.toInt ≤ 3 := k3.2.2.2 rfl; have := fb_rng (p2); omega) (by have := w1; have := w0; have : -1 ≤ r2.toInt ∧ r2.toInt ≤ 2 := k2.2.2.1 rfl; have : -1 ≤ r3.toInt ∧ r3.toInt ≤ 3 := k3.2.2.2 rfl; have : (6 : Int32).toInt = 6 := rfl; omega)) (fun r4 h4 k4 => ?_)
  have e4 : h = h4 := k4.1.symm
  subst e4
  refine ok_ob2 (u_X9_marketTells h p1 p2 r1 r2 r3 r4 ((SM_refl hI)).1 (by have := w1; have := w0; have : -1 ≤ r2.toInt ∧ r2.toInt ≤ 2 := k2.2.2.1 rfl; have : -1 ≤ r3.toInt ∧ r3.toInt ≤ 3 := k3.2.2.2 rfl; have := fb_rng (p1); omega) (by have := w1; have := w0; have : -1 ≤ r2.toInt ∧ r2.toInt ≤ 2 := k2.2.2.1 rfl; have : -1 ≤ r3.toInt ∧ r3.toInt ≤ 3 := k3.2.2.2 rfl; have := fb_rng (p2); omega) (by have := w1; have := w0; have : -1 ≤ r2.toInt ∧ r2.toInt ≤ 2 := k2.2.2.1 rfl; have : -1 ≤ r3.toInt ∧ r3.toInt ≤ 3 := k3.2.2.2 rfl; have := fb_rng (r3); omega)) (fun r5 h5 k5 => ?_)
  have s5 : SM h h5 := SM_trans (b := h) (SM_refl hI) k5.1
  exact ok_some ⟨s5, trivial⟩
theorem u_X9_isTrueBy (h : HS) (p1 p2 p3 p4 : Int32) (hI : IM h) (w0 : 0 ≤ p1.toInt ∧ p1.toInt ≤ 9) : ok (f_X9_isTrueBy h p1 p2 p3 p4) (fun a => SM h a.2 ∧ (a.1 = 0 ∨ a.1 = 1)) := by
  unfold f_X9_isTrueBy f_X9_isTrueBy_53
  refine ok_ob2 (u_X9_ordersOf h 3 hI (by decide)) (fun r1 h1 k1 => ?_)
  have e1 : h = h1 := k1.1.symm
  subst e1
  refine ok_if (fun c => ok_some ⟨SM_refl hI, Or.inr rfl⟩) (fun c => ?_)
  have pr : PR h r1 := k1.2.resolve_left c
  refine ok_ob1 (u_X9_names h p1 p2 p3 _ hI w0) (fun h3 k3 => ?_)
  refine ok_ob2 (u_X9_saysOf _ r1 (show IM _ from k3.1.1) (show PR _ _ from PR_sm k3.1 pr)) (fun r4 h4 k4 => ?_)
  have s4 : SM h h4 := SM_trans k3.1 k4.1
  exact ok_if (fun c => ok_chk (Or.inl rfl) (ok_some ⟨s4, Or.inl rfl⟩)) (fun c => ok_chk (Or.inr rfl) (ok_some ⟨s4, Or.inr rfl⟩))
theorem u_X9_isTrue (h : HS) (p1 : Int32) (hI : IM h) (w0 : 0 ≤ p1.toInt ∧ p1.toInt ≤ 9) : ok (f_X9_isTrue h p1) (fun a => SM h a.2 ∧ (a.1 = 0 ∨ a.1 = 1)) := by
  unfold f_X9_isTrue
  refine ok_ob2 (u_X9_ofGoose h p1 2 ((SM_refl hI)).1 (by have := w0; have := fb_rng (p1); omega) (by have := w0; have : (2 : Int32).toInt = 2 := rfl; omega)) (fun r1 h1 k1 => ?_)
  have e1 : h = h1 := k1.1.symm
  subst e1
  refine ok_ob2 (u_X9_ofGoose h p1 3 ((SM_refl hI)).1 (by have := w0; have := fb_rng (p1); omega) (by have := w0; have : (3 : Int32).toInt = 3 := rfl; omega)) (fun r2 h2 k2 => ?_)
  have e2 : h = h2 := k2.1.symm
  subst e2
  refine ok_ob2 (u_X9_ofGoose h p1 1 ((SM_refl hI)).1 (by have := w0; have : -1 ≤ r2.toInt ∧ r2.toInt ≤ 2 := k2.2.2.1 rfl; have := fb_rng (p1); omega) (by have := w0; have : -1 ≤ r2.toInt ∧ r2.toInt ≤ 2 := k2.2.2.1 rfl; have : (1 : Int32).toInt = 1 := rfl; omega)) (fun r3 h3 k3 => ?_)
  have e3 : h = h3 := k3.1.symm
  subst e3
  refine ok_ob2 (u_X9_isTrueBy h p1 r1 r2 r3 ((SM_refl hI)).1 (by have := w0; have : -1 ≤ r2.toInt ∧ r2.toInt ≤ 2 := k2.2.2.1 rfl; have : 0 ≤ r3.toInt ∧ r3.toInt ≤ 99 := k3.2.1 rfl; have := fb_rng (p1); omega)) (fun r4 h4 k4 => ?_)
  have s4 : SM h h4 := SM_trans (b := h) (SM_refl hI) k4.1
  refine ok_chk (k4.2) ?_
  exact ok_some ⟨s4, k4.2⟩
theorem u_X9_comesThere (h : HS) (p1 : Int32) (hI : IM h) (w0 : 0 ≤ p1.toInt ∧ p1.toInt ≤ 9) : ok (f_X9_comesThere h p1) (fun a => SW h a ∧ True) := by
  unfold f_X9_comesThere
  refine ok_ob2 (u_X9_draw h ((SW_refl hI)).1) (fun r1 h1 k1 => ?_)
  have s1 : SW h h1 := SW_trans (b := h) (SW_refl hI) k1.1
  refine ok_ob2 (u_X9_marketOf h1 0 p1 (s1).1 (by have := w0; have : (0 : Int32).toInt = 0 := rfl; omega) (by have := w0; have := fb_rng (p1); omega)) (fun r2 h2 k2 => ?_)
  have s2 : SW h h2 := SW_trans (b := h1) s1 (SM_SW k2.1)
  refine ok_if (fun c3 => ?_) (fun c3 => ?_)
  · unfold f_X9_comesThere_50
    refine ok_ob1 (u_X9_puts h2 p1 4 2 (s2).1 (by have := w0; have := fb_rng (p1); omega) (by decide) (fun e => absurd e (by decide)) (fun e => absurd e (by decide))) (fun h4 k4 => ?_)
    have s4 : SW h h4 := SW_trans (b := h2) s2 k4.1
    refine ok_ob1 (u_X9_puts h4 p1 7 ((eA h4 0 0) 121) (s4).1 (by have := w0; have := fb_rng (p1); omega) (by decide) (fun e => absurd e (by decide)) (fun e => absurd e (by decide))) (fun h5 k5 => ?_)
    have s5 : SW h h5 := SW_trans (b := h4) s4 k5.1
    exact ok_some ⟨s5, trivial⟩
  · refine ok_ob2 (u_X9_ofGoose h2 p1 2 (s2).1 (by have := w0; have := fb_rng (p1); omega) (by have := w0; have : (2 : Int32).toInt = 2 := rfl; omega)) (fun r6 h6 k6 => ?_)
    have e6 : h2 = h6 := k6.1.symm
    subst e6
    refine ok_if (fun c7 => ?_) (fun c7 => ?_)
    · unfold f_X9_comesThere_50
      refine ok_ob1 (u_X9_puts h2 p1 4 3 (s2).1 (by have := w0; have := fb_rng (p1); omega) (by decide) (fun e => absurd e (by decide)) (fun e => absurd e (by decide))) (fun h8 k8 => ?_)
      have s8 : SW h h8 := SW_trans (b := h2) s2 k8.1
      refine ok_ob1 (u_X9_puts h8 p1 7 ((eA h8 0 0) 121) (s8).1 (by have := w0; have := fb_rng (p1); omega) (by decide) (fun e => absurd e (by decide)) (fun e => absurd e (by decide))) (fun h9 k9 => ?_)
      have s9 : SW h h9 := SW_trans (b := h8) s8 k9.1
      exact ok_some ⟨s9, trivial⟩
    · refine ok_ob2 (u_X9_draw h2 (s2).1) (fun r10 h10 k10 => ?_)
      have s10 : SW h h10 := SW_trans (b := h2) s2 k10.1
      refine ok_ob2 (u_X9_marketOf h10 1 p1 (s10).1 (by have := w0; have : (1 : Int32).toInt = 1 := rfl; omega) (by have := w0; have := fb_rng (p1); omega)) (fun r11 h11 k11 => ?_)
      have s11 : SW h h11 := SW_trans (b := h10) s10 (SM_SW k11.1)
      refine ok_if (fun c12 => ?_) (fun c12 => ?_)
      · unfold f_X9_comesThere_49
        unfold f_X9_comesThere_50
        refine ok_ob1 (u_X9_puts h11 p1 4 3 (s11).1 (by have := w0; have := fb_rng (p1); omega) (by decide) (fun e => absurd e (by decide)) (fun e => absurd e (by decide))) (fun h13 k13 => ?_)
        have s13 : SW h h13 := SW_trans (b := h11) s11 k13.1
        refine ok_ob1 (u_X9_puts h13 p1 7 ((eA h13 0 0) 121) (s13).1 (by have := w0; have := fb_rng (p1); omega) (by decide) (fun e => absurd e (by decide)) (fun e => absurd e (by decide))) (fun h14 k14 => ?_)
        have s14 : SW h h14 := SW_trans (b := h13) s13 k14.1
        exact ok_some ⟨s14, trivial⟩
      · unfold f_X9_comesThere_49
        unfold f_X9_comesThere_50
        refine ok_ob1 (u_X9_puts h11 p1 4 4 (s11).1 (by have := w0; have := fb_rng (p1); omega) (by decide) (fun e => absurd e (by decide)) (fun e => absurd e (by decide))) (fun h15 k15 => ?_)
        have s15 : SW h h15 := SW_trans (b := h11) s11 k15.1
        refine ok_ob1 (u_X9_puts h15 p1 7 ((eA h15 0 0) 121) (s15).1 (by have := w0; have := fb_rng (p1); omega) (by decide) (fun e => absurd e (by decide)) (fun e => absurd e (by decide))) (fun h16 k16 => ?_)
        have s16 : SW h h16 := SW_trans (b := h15) s15 k16.1
        exact ok_some ⟨s16, trivial⟩
theorem u_X9_hungers_100 {h0 : HS} (h : HS) (x2 y0 : Int32) (s : SW h0 h) (i0 : 0 ≤ x2.toInt) : ok (f_X9_hungers_100 h x2 y0 120) (fun a => SW h0 a ∧ True) := by
  unfold f_X9_hungers_100 f_X9_hungers_132
  have c120 : (120 : Int32).toNatClampNeg = 120 := by decide
  refine ok_chk (by decide) ?_
  rw [c120]
  have s1 : SW h0 (sA h 0 0 (upd (eA h 0 0) 120 y0)) := sw_row s (RO_free s.1.2.1 (by decide)) rfl rfl rfl
  refine ok_if (fun c => ok_some ⟨s1, trivial⟩) (fun c => ?_)
  have d : x2.toInt < (eA h 0 0 1).toInt := gi_of_nle c
  have hn := IM_n s.1
  have w : 0 ≤ x2.toInt ∧ x2.toInt ≤ 9 := by omega
  refine ok_ob1 (u_X9_puts _ x2 4 5 s1.1 w (by decide) (fun e => absurd e (by decide)) (fun e => absurd e (by decide))) (fun h12 k12 => ?_)
  have s12 := SW_trans s1 k12.1
  refine ok_ob1 (u_X9_puts _ x2 7 _ s12.1 w (by decide) (fun e => absurd e (by decide)) (fun e => absurd e (by decide))) (fun h13 k13 => ?_)
  exact ok_some ⟨SW_trans s12 k13.1, trivial⟩
theorem u_X9_hungers_74 {h0 : HS} (h : HS) (x2 : Int32) (s : SW h0 h) (i0 : 0 ≤ x2.toInt) : ok (f_X9_hungers_74 h x2) (fun a => SW h0 a ∧ True) := by
  unfold f_X9_hungers_74
  refine ok_if (fun c => u_X9_hungers_100 h x2 0 s i0) (fun c => ?_)
  have d := gi_of_nle c
  have hn := IM_n s.1
  refine ok_ob2 (u_X9_ofGoose h x2 0 s.1 (by omega) (by decide)) (fun r9 h9 k9 => ?_)
  have e1 : h = h9 := k9.1.symm
  subst e1
  exact u_X9_hungers_100 h x2 r9 s i0
theorem u_X9_hungers_38 {h0 : HS} : ∀ (n : Nat) (h : HS) (x2 : Int32), SW h0 h → 0 ≤ x2.toInt → 0 < n → (10 - (x2).toInt : Int) < (n : Int) → ok (f_X9_hungers_38 n h x2) (fun a => SW h0 a ∧ True) := by
  intro n
  induction n with
  | zero => intro h x2 s i0 hn hm; exact absurd hn (by decide)
  | succ n ih =>
    intro h x2 s i0 hn hm
    rw [f_X9_hungers_38_s]
    refine ok_if (fun c => u_X9_hungers_74 h x2 s i0) (fun c => ?_)
    have d := gi_of_nle c
    have hn := IM_n s.1
    have z1 : (1 : Int32).toInt = 1 := rfl
    have e := fb_addI (x := x2) (y := 1) (by omega) (by omega)
    refine ok_ob2 (u_X9_ofGoose h x2 4 s.1 (by omega) (by decide)) (fun r4 h4 k4 => ?_)
    have e1 : h = h4 := k4.1.symm
    subst e1
    refine ok_if (fun c => ?_) (fun c => ?_)
    · refine ok_ob2 (u_X9_ofGoose h x2 8 s.1 (by omega) (by decide)) (fun r6 h6 k6 => ?_)
      have e1 : h = h6 := k6.1.symm
      subst e1
      refine ok_if (fun c => ?_) (fun c => u_X9_hungers_74 h x2 s i0)
      unfold f_X9_hungers_68
      exact ih h (x2 + 1) s (by omega) (by omega) (by omega)
    · unfold f_X9_hungers_68
      exact ih h (x2 + 1) s (by omega) (by omega) (by omega)
theorem u_X9_hungers (h : HS) (hI : IM h) : ok (f_X9_hungers h) (fun a => SW h a ∧ True) := by
  unfold f_X9_hungers
  refine ok_ob2 (u_X9_geeseOf h 0 hI) (fun r1 h1 k1 => ?_)
  have e1 : h = h1 := k1.1.symm
  subst e1
  refine ok_if (fun c => u_X9_hungers_38 _ h 0 (SW_refl hI) (by decide) (by decide) (by have : (0 : Int32).toInt = 0 := rfl; omega)) (fun c => ?_)
  exact ok_some ⟨sw_row (SW_refl hI) (RO_free hI.2.1 (by decide)) rfl rfl rfl, trivial⟩
theorem u_X9_pass_51 {h0 : HS} (x1 : Int32) (x2 : Int32) {k33 : HS → Int32 → Int32 → Option (Int32 × HS)} (hk33 : ∀ h : HS, SW h0 h → ok (k33 h x1 (x2 + 1)) (fun a => SW h0 a.2 ∧ True)) : ∀ (n : Nat) (h : HS) (x3 : Int32), SW h0 h → 0 ≤ x3.toInt → 0 ≤ x2.toInt → x1.toInt ≤ 99 → x2.toInt < x1.toInt → 0 < n → (10 - (x3).toInt : Int) < (n : Int) → ok (f_X9_pass_51 k33 n h x1 x2 x3) (fun a => SW h0 a.2 ∧ True) := by
  intro n
  induction n with
  | zero =>
    intro h x3 hSC i0 i1 i2 i3 hn hm
    exact absurd hn (by decide)
  | succ n ih_X9_pass_51 =>
    intro h x3 hSC i0 i1 i2 i3 hn hm
    rw [f_X9_pass_51_s]
    refine ok_if (fun c1 => ?_) (fun c1 => ?_)
    · refine ok_ob1 (u_X9_hungers h (hSC).1) (fun h2 k2 => ?_)
      have s2 : SW h0 h2 := SW_trans (b := h) hSC k2.1
      exact hk33 h2 s2
    · refine ok_ob2 (u_X9_ofGoose h x3 4 (hSC).1 (by have := IM_n hSC.1; have := i0; have := i1; have := i2; have := i3; have := hm; have := gi_of_nle c1; have := fb_rng ((eA h 0 0) 1); have := fb_rng (x3); omega) (by have := i0; have := i1; have := i2; have := i3; have := hm; have : (4 : Int32).toInt = 4 := rfl; omega)) (fun r3 h3 k3 => ?_)
      have e3 : h = h3 := k3.1.symm
      subst e3
      refine ok_if (fun c4 => ?_) (fun c4 => ?_)
      · refine ok_ob2 (u_X9_ofGoose h x3 6 (hSC).1 (by have := IM_n hSC.1; have := i0; have := i1; have := i2; have := i3; have := hm; have := gi_of_nle c1; have := fb_rng ((eA h 0 0) 1); have := fb_rng (x3); omega) (by have := i0; have := i1; have := i2; have := i3; have := hm; have : (6 : Int32).toInt = 6 := rfl; omega)) (fun r5 h5 k5 => ?_)
        have e5 : h = h5 := k5.1.symm
        subst e5
        refine ok_if (fun c6 => ?_) (fun c6 => ?_)
        · refine ok_ob1 (u_X9_comesThere h x3 (hSC).1 (by have := IM_n hSC.1; have := i0; have := i1; have := i2; have := i3; have := hm; have := gi_of_nle c1; have := fb_rng ((eA h 0 0) 1); have := fb_rng (x3); omega)) (fun h7 k7 => ?_)
          have s7 : SW h0 h7 := SW_trans (b := h) hSC k7.1
          unfold f_X9_pass_93
          exact ih_X9_pass_51 h7 (x3 + 1) s7 (by have := IM_n hSC.1; have := i0; have := i1; have := i2; have := i3; have := hm; have := gi_of_nle c1; have : (1 : Int32).toInt = 1 := rfl; have := fb_rng ((eA h 0 0) 1); have := fb_rng (x3); (try have := fb_addI (x := x3) (y := 1) (by omega) (by omega)); omega) (by have := i0; have := i1; have := i2; have := i3; have := hm; have := fb_rng (x2); omega) (by have := i0; have := i1; have := i2; have := i3; have := hm; have := fb_rng (x1); omega) (by have := i0; have := i1; have := i2; have := i3; have := hm; have := fb_rng (x2); have := fb_rng (x1); omega) (by have := IM_n hSC.1; have := i0; have := i1; have := i2; have := i3; have := hm; have := gi_of_nle c1; have : (1 : Int32).toInt = 1 := rfl; have := fb_rng ((eA h 0 0) 1); have := fb_rng (x3); (try have := fb_addI (x := x3) (y := 1) (by omega) (by omega)); omega) (by have := IM_n hSC.1; have := i0; have := i1; have := i2; have := i3; have := hm; have := gi_of_nle c1; have : (1 : Int32).toInt = 1 := rfl; have := fb_rng ((eA h 0 0) 1); have := fb_rng (x3); (try have := fb_addI (x := x3) (y := 1) (by omega) (by omega)); omega)
        · unfold f_X9_pass_93
          exact ih_X9_pass_51 h (x3 + 1) hSC (by have := IM_n hSC.1; have := i0; have := i1; have := i2; have := i3; have := hm; have := gi_of_nle c1; have : (1 : Int32).toInt = 1 := rfl; have := fb_rng ((eA h 0 0) 1); have := fb_rng (x3); (try have := fb_addI (x := x3) (y := 1) (by omega) (by omega)); omega) (by have := i0; have := i1; have := i2; have := i3; have := hm; have := fb_rng (x2); omega) (by have := i0; have := i1; have := i2; have := i3; have := hm; have := fb_rng (x1); omega) (by have := i0; have := i1; have := i2; have := i3; have := hm; have := fb_rng (x2); have := fb_rng (x1); omega) (by have := IM_n hSC.1; have := i0; have := i1; have := i2; have := i3; have := hm; have := gi_of_nle c1; have : (1 : Int32).toInt = 1 := rfl; have := fb_rng ((eA h 0 0) 1); have := fb_rng (x3); (try have := fb_addI (x := x3) (y := 1) (by omega) (by omega)); omega) (by have := IM_n hSC.1; have := i0; have := i1; have := i2; have := i3; have := hm; have := gi_of_nle c1; have : (1 : Int32).toInt = 1 := rfl; have := fb_rng ((eA h 0 0) 1); have := fb_rng (x3); (try have := fb_addI (x := x3) (y := 1) (by omega) (by omega)); omega)
      · unfold f_X9_pass_93
        exact ih_X9_pass_51 h (x3 + 1) hSC (by have := IM_n hSC.1; have := i0; have := i1; have := i2; have := i3; have := hm; have := gi_of_nle c1; have : (1 : Int32).toInt = 1 := rfl; have := fb_rng ((eA h 0 0) 1); have := fb_rng (x3); (try have := fb_addI (x := x3) (y := 1) (by omega) (by omega)); omega) (by have := i0; have := i1; have := i2; have := i3; have := hm; have := fb_rng (x2); omega) (by have := i0; have := i1; have := i2; have := i3; have := hm; have := fb_rng (x1); omega) (by have := i0; have := i1; have := i2; have := i3; have := hm; have := fb_rng (x2); have := fb_rng (x1); omega) (by have := IM_n hSC.1; have := i0; have := i1; have := i2; have := i3; have := hm; have := gi_of_nle c1; have : (1 : Int32).toInt = 1 := rfl; have := fb_rng ((eA h 0 0) 1); have := fb_rng (x3); (try have := fb_addI (x := x3) (y := 1) (by omega) (by omega)); omega) (by have := IM_n hSC.1; have := i0; have := i1; have := i2; have := i3; have := hm; have := gi_of_nle c1; have : (1 : Int32).toInt = 1 := rfl; have := fb_rng ((eA h 0 0) 1); have := fb_rng (x3); (try have := fb_addI (x := x3) (y := 1) (by omega) (by omega)); omega)
theorem u_X9_pass_33 {h0 : HS} (x1 : Int32) : ∀ (n : Nat) (h : HS) (x2 : Int32), SW h0 h → 0 ≤ x2.toInt → x1.toInt ≤ 99 → 0 < n → (100 - (x2).toInt : Int) < (n : Int) → ok (f_X9_pass_33  n h x1 x2) (fun a => SW h0 a.2 ∧ True) := by
  intro n
  induction n with
  | zero =>
    intro h x2 hSC i0 i1 hn hm
    exact absurd hn (by decide)
  | succ n ih_X9_pass_33 =>
    intro h x2 hSC i0 i1 hn hm
    rw [f_X9_pass_33_s]
    refine ok_if (fun c1 => ?_) (fun c1 => ?_)
    · exact ok_some ⟨hSC, trivial⟩
    · exact u_X9_pass_51 (h0 := h0) x1 x2 (fun h_9 s_9 => ih_X9_pass_33 h_9 (x2 + 1) s_9 (by have := i0; have := i1; have := hm; have := gi_of_nle c1; have : (1 : Int32).toInt = 1 := rfl; have := fb_rng (x1); have := fb_rng (x2); (try have := fb_addI (x := x2) (y := 1) (by omega) (by omega)); omega) (by have := i0; have := i1; have := hm; have := gi_of_nle c1; have := fb_rng (x1); have := fb_rng (x2); omega) (by have := i0; have := i1; have := hm; have := gi_of_nle c1; have : (1 : Int32).toInt = 1 := rfl; have := fb_rng (x1); have := fb_rng (x2); (try have := fb_addI (x := x2) (y := 1) (by omega) (by omega)); omega) (by have := i0; have := i1; have := hm; have := gi_of_nle c1; have : (1 : Int32).toInt = 1 := rfl; have := fb_rng (x1); have := fb_rng (x2); (try have := fb_addI (x := x2) (y := 1) (by omega) (by omega)); omega)) 8589934592 (sA h 0 0 (upd (eA h 0 0) 121 (((eA h 0 0) 121) + 1))) 0 (sw_row (c := h) (f := (upd (eA h 0 0) 121 (((eA h 0 0) 121) + 1))) hSC (RO_free (i := 121) (v := (((eA h 0 0) 121) + 1)) hSC.1.2.1 (by decide)) rfl rfl rfl) (by have := i0; have := i1; have := hm; have : (0 : Int32).toInt = 0 := rfl; omega) (by have := i0; have := i1; have := hm; have := gi_of_nle c1; have := fb_rng (x1); have := fb_rng (x2); omega) (by have := i0; have := i1; have := hm; have := gi_of_nle c1; have := fb_rng (x1); have := fb_rng (x2); omega) (by have := i0; have := i1; have := hm; have := gi_of_nle c1; have := fb_rng (x1); have := fb_rng (x2); omega) (by decide) (by have := i0; have := i1; have := hm; have : (0 : Int32).toInt = 0 := rfl; omega)
theorem u_X9_pass (h : HS) (p1 : Int32) (hI : IM h) : ok (f_X9_pass h p1) (fun a => SW h a.2 ∧ True) := by
  unfold f_X9_pass
  refine ok_ob1 (u_X9_in p1 1 99) (fun r1 k1 => ?_)
  refine ok_if (fun c2 => ?_) (fun c2 => ?_)
  · unfold f_X9_pass_25
    exact ok_some ⟨(SW_refl hI), trivial⟩
  · refine ok_if (fun c3 => ?_) (fun c3 => ?_)
    · refine ok_ob1 (u_X9_keepsStep h ((SW_refl hI)).1) (fun h4 k4 => ?_)
      have s4 : SW h h4 := SW_trans (b := h) (SW_refl hI) k4.1
      exact u_X9_pass_33 (h0 := h) p1 8589934592 h4 0 s4 (by have : ((r1).toInt = 0 ∨ ((1 : Int32).toInt ≤ p1.toInt ∧ p1.toInt ≤ (99 : Int32).toInt)) := k1.2; have : (0 : Int32).toInt = 0 := rfl; have : (1 : Int32).toInt = 1 := rfl; have : (99 : Int32).toInt = 99 := rfl; omega) (by have := IM_n (SW_refl hI).1; have : ((r1).toInt = 0 ∨ ((1 : Int32).toInt ≤ p1.toInt ∧ p1.toInt ≤ (99 : Int32).toInt)) := k1.2; have := gi_of_ne c2; have := gi_of_le c3; have : (0 : Int32).toInt = 0 := rfl; have : (1 : Int32).toInt = 1 := rfl; have : (99 : Int32).toInt = 99 := rfl; have : (999 : Int32).toInt = 999 := rfl; have := fb_rng (r1); have := fb_rng ((eA h 0 0) 121); have := fb_rng (p1); (try have := fb_addI (x := ((eA h 0 0) 121)) (y := p1) (by omega) (by omega)); omega) (by decide) (by have : ((r1).toInt = 0 ∨ ((1 : Int32).toInt ≤ p1.toInt ∧ p1.toInt ≤ (99 : Int32).toInt)) := k1.2; have : (0 : Int32).toInt = 0 := rfl; have : (1 : Int32).toInt = 1 := rfl; have : (99 : Int32).toInt = 99 := rfl; omega)
    · unfold f_X9_pass_25
      exact ok_some ⟨(SW_refl hI), trivial⟩
theorem u_X9_played_21 {h0 : HS} (x1 : Int32) (w : 0 ≤ x1.toInt ∧ x1.toInt ≤ 3) : ∀ (n : Nat) (h : HS) (x2 : Int32), SW h0 h → 0 ≤ x2.toInt → 0 < n → (24 - (x2).toInt : Int) < (n : Int) → ok (f_X9_played_21 n h x1 x2) (fun a => SW h0 a.2 ∧ True) := by
  intro n
  induction n with
  | zero => intro h x2 s i0 hn hm; exact absurd hn (by decide)
  | succ n ih =>
    intro h x2 s i0 hn hm
    rw [f_X9_played_21_s]
    have tx := s.1.2.2.2.1 x1.toInt.toNat (by omega)
    have b1 : x1.toNatClampNeg = x1.toInt.toNat := by rw [Int32.toNatClampNeg]
    have z1 : (1 : Int32).toInt = 1 := rfl
    refine ok_chk (by omega) ?_
    rw [b1]
    refine ok_if (fun c => ok_some ⟨s, trivial⟩) (fun c => ?_)
    have d := gi_of_nle c
    have m1 : (24 * x1).toInt = 24 * x1.toInt := fb_mulJ rfl (by omega) (by omega)
    have a1 : (24 * x1 + x2).toInt = 24 * x1.toInt + x2.toInt := by rw [fb_addI (by omega) (by omega)]; omega
    have a2 := fb_addI (x := x2) (y := 1) (by omega) (by omega)
    have go : ∀ (h1 : HS) (y : Int32), SW h0 h1 → ok (f_X9_played_154 (f_X9_played_21 n) h1 x1 x2 y) (fun a => SW h0 a.2 ∧ True) := by
      intro h1 y s1
      unfold f_X9_played_154
      exact ok_if (fun c => ok_some ⟨s1, trivial⟩) (fun c => ih h1 (x2 + 1) s1 (by omega) (by omega) (by omega))
    have ck : 0 ≤ (24 * x1 + x2).toInt ∧ (24 * x1 + x2).toInt < 96 := by omega
    refine ok_chk ck ?_
    refine ok_if (fun c => ?_) (fun c => ?_)
    · refine ok_chk ck (ok_chk ck (ok_chk ck ?_))
      exact ok_ob2 (u_X9_fill h _ _ _ s.1) (fun r h1 k => go h1 r (SW_trans s k.1))
    refine ok_if (fun c => ?_) (fun c => ?_)
    · refine ok_chk ck (ok_chk ck ?_)
      exact ok_ob2 (u_X9_send h _ _ s.1) (fun r h1 k => go h1 r (SW_trans s k.1))
    refine ok_if (fun c => ?_) (fun c => ?_)
    · refine ok_chk ck ?_
      exact ok_ob2 (u_X9_fatten h _ s.1) (fun r h1 k => go h1 r (SW_trans s k.1))
    refine ok_if (fun c => ?_) (fun c => ?_)
    · refine ok_chk ck ?_
      exact ok_ob2 (u_X9_pass h _ s.1) (fun r h1 k => go h1 r (SW_trans s k.1))
    exact go h 0 s
theorem u_X9_played (h : HS) (p1 : Int32) (hI : IM h) : ok (f_X9_played h p1) (fun a => SW h a.2 ∧ True) := by
  unfold f_X9_played
  have hn := IM_n hI
  refine ok_ob1 (u_X9_in p1 0 _) (fun r k => ?_)
  refine ok_if (fun c => ok_some ⟨SW_refl hI, trivial⟩) (fun c => ?_)
  have z0 : (0 : Int32).toInt = 0 := rfl; have z1 : (1 : Int32).toInt = 1 := rfl
  have e := fb_subI (x := eA h 0 0 3) (y := 1) (by omega) (by omega)
  have := k.2; have := gi_of_ne c
  exact u_X9_played_21 p1 (by omega) _ h 0 (SW_refl hI) (by decide) (by decide) (by omega)
theorem u_X9_of (h : HS) (p1 : Int32) (p2 : Int32) (hI : IM h) : ok (f_X9_of h p1 p2) (fun a => SM h a.2 ∧ True) := by
  unfold f_X9_of
  refine ok_ob2 (u_X9_isGoose h p1 ((SM_refl hI)).1) (fun r1 h1 k1 => ?_)
  have e1 : h = h1 := k1.1.symm
  subst e1
  refine ok_if (fun c2 => ?_) (fun c2 => ?_)
  · unfold f_X9_of_18
    exact ok_some ⟨(SM_refl hI), trivial⟩
  · refine ok_ob1 (u_X9_in p2 0 9) (fun r3 k3 => ?_)
    refine ok_if (fun c4 => ?_) (fun c4 => ?_)
    · unfold f_X9_of_18
      exact ok_some ⟨(SM_refl hI), trivial⟩
    · refine ok_if (fun c5 => ?_) (fun c5 => ?_)
      · refine ok_ob2 (u_X9_isTrue h p1 ((SM_refl hI)).1 (by have := IM_n (SM_refl hI).1; have : ((r1).toInt = 0 ∨ (0 ≤ p1.toInt ∧ p1.toInt < ((eA h 0 0) 1).toInt)) := k1.2.2; have : ((r3).toInt = 0 ∨ ((0 : Int32).toInt ≤ p2.toInt ∧ p2.toInt ≤ (9 : Int32).toInt)) := k3.2; have := gi_of_ne c2; have : (0 : Int32).toInt = 0 := rfl; have : (9 : Int32).toInt = 9 := rfl; have := fb_rng (r1); have := fb_rng (p1); omega)) (fun r6 h6 k6 => ?_)
        have s6 : SM h h6 := SM_trans (b := h) (SM_refl hI) k6.1
        refine ok_if (fun c7 => ?_) (fun c7 => ?_)
        · unfold f_X9_of_47
          exact ok_some ⟨s6, trivial⟩
        · unfold f_X9_of_47
          exact ok_some ⟨s6, trivial⟩
      · refine ok_ob2 (u_X9_ofGoose h p1 p2 ((SM_refl hI)).1 (by have := IM_n (SM_refl hI).1; have : ((r1).toInt = 0 ∨ (0 ≤ p1.toInt ∧ p1.toInt < ((eA h 0 0) 1).toInt)) := k1.2.2; have : ((r3).toInt = 0 ∨ ((0 : Int32).toInt ≤ p2.toInt ∧ p2.toInt ≤ (9 : Int32).toInt)) := k3.2; have := gi_of_ne c2; have : (0 : Int32).toInt = 0 := rfl; have : (9 : Int32).toInt = 9 := rfl; have := fb_rng (r1); have := fb_rng (p1); omega) (by have := IM_n (SM_refl hI).1; have : ((r1).toInt = 0 ∨ (0 ≤ p1.toInt ∧ p1.toInt < ((eA h 0 0) 1).toInt)) := k1.2.2; have : ((r3).toInt = 0 ∨ ((0 : Int32).toInt ≤ p2.toInt ∧ p2.toInt ≤ (9 : Int32).toInt)) := k3.2; have := gi_of_ne c4; have := gi_of_nle c5; have : (0 : Int32).toInt = 0 := rfl; have : (9 : Int32).toInt = 9 := rfl; have := fb_rng (r3); have := fb_rng (p2); omega)) (fun r8 h8 k8 => ?_)
        have e8 : h = h8 := k8.1.symm
        subst e8
        exact ok_some ⟨(SM_refl hI), trivial⟩
theorem u_X9_brought (h : HS) (p1 : Int32) (p2 : Int32) (p3 : Int32) (p4 : Int32) (hI : IM h) (w0 : 0 ≤ p1.toInt ∧ p1.toInt ≤ 9) : ok (f_X9_brought h p1 p2 p3 p4) (fun a => SM h a.2 ∧ True) := by
  unfold f_X9_brought
  refine ok_ob2 (u_X9_ofGoose h p1 2 ((SM_refl hI)).1 (by have := w0; have := fb_rng (p1); omega) (by have := w0; have : (2 : Int32).toInt = 2 := rfl; omega)) (fun r1 h1 k1 => ?_)
  have e1 : h = h1 := k1.1.symm
  subst e1
  refine ok_if (fun c2 => ?_) (fun c2 => ?_)
  · refine ok_ob2 (u_X9_ofGoose h p1 7 ((SM_refl hI)).1 (by have := w0; have := fb_rng (p1); omega) (by have := w0; have : (7 : Int32).toInt = 7 := rfl; omega)) (fun r3 h3 k3 => ?_)
    have e3 : h = h3 := k3.1.symm
    subst e3
    refine ok_if (fun c4 => ?_) (fun c4 => ?_)
    · unfold f_X9_brought_51
      exact ok_some ⟨(SM_refl hI), trivial⟩
    · refine ok_ob2 (u_X9_ofGoose h p1 7 ((SM_refl hI)).1 (by have := w0; have := fb_rng (p1); omega) (by have := w0; have : (7 : Int32).toInt = 7 := rfl; omega)) (fun r5 h5 k5 => ?_)
      have e5 : h = h5 := k5.1.symm
      subst e5
      refine ok_if (fun c6 => ?_) (fun c6 => ?_)
      · unfold f_X9_brought_51
        exact ok_some ⟨(SM_refl hI), trivial⟩
      · refine ok_ob2 (u_X9_ofGoose h p1 4 ((SM_refl hI)).1 (by have := w0; have := fb_rng (p1); omega) (by have := w0; have : (4 : Int32).toInt = 4 := rfl; omega)) (fun r7 h7 k7 => ?_)
        have e7 : h = h7 := k7.1.symm
        subst e7
        refine ok_if (fun c8 => ?_) (fun c8 => ?_)
        · unfold f_X9_brought_48
          refine ok_if (fun c9 => ?_) (fun c9 => ?_)
          · refine ok_if (fun c10 => ?_) (fun c10 => ?_)
            · refine ok_ob2 (u_X9_isTrue h p1 ((SM_refl hI)).1 (by have := w0; have := fb_rng (p1); omega)) (fun r11 h11 k11 => ?_)
              have s11 : SM h h11 := SM_trans (b := h) (SM_refl hI) k11.1
              refine ok_if (fun c12 => ?_) (fun c12 => ?_)
              · unfold f_X9_brought_79
                exact ok_some ⟨s11, trivial⟩
              · unfold f_X9_brought_66
                refine ok_ob2 (u_X9_ofGoose h11 p1 3 (s11).1 (by have := w0; have := fb_rng (p1); omega) (by have := w0; have : (3 : Int32).toInt = 3 := rfl; omega)) (fun r13 h13 k13 => ?_)
                have e13 : h11 = h13 := k13.1.symm
                subst e13
                refine ok_ob1 (u_X9_halves r13) (fun r14 k14 => ?_)
                unfold f_X9_brought_79
                exact ok_some ⟨s11, trivial⟩
            · unfold f_X9_brought_66
              refine ok_ob2 (u_X9_ofGoose h p1 3 ((SM_refl hI)).1 (by have := w0; have := fb_rng (p1); omega) (by have := w0; have : (3 : Int32).toInt = 3 := rfl; omega)) (fun r15 h15 k15 => ?_)
              have e15 : h = h15 := k15.1.symm
              subst e15
              refine ok_ob1 (u_X9_halves r15) (fun r16 k16 => ?_)
              unfold f_X9_brought_79
              exact ok_some ⟨(SM_refl hI), trivial⟩
          · unfold f_X9_brought_51
            exact ok_some ⟨(SM_refl hI), trivial⟩
        · unfold f_X9_brought_48
          refine ok_if (fun c17 => ?_) (fun c17 => ?_)
          · refine ok_if (fun c18 => ?_) (fun c18 => ?_)
            · refine ok_ob2 (u_X9_isTrue h p1 ((SM_refl hI)).1 (by have := w0; have := fb_rng (p1); omega)) (fun r19 h19 k19 => ?_)
              have s19 : SM h h19 := SM_trans (b := h) (SM_refl hI) k19.1
              refine ok_if (fun c20 => ?_) (fun c20 => ?_)
              · unfold f_X9_brought_79
                exact ok_some ⟨s19, trivial⟩
              · unfold f_X9_brought_66
                refine ok_ob2 (u_X9_ofGoose h19 p1 3 (s19).1 (by have := w0; have := fb_rng (p1); omega) (by have := w0; have : (3 : Int32).toInt = 3 := rfl; omega)) (fun r21 h21 k21 => ?_)
                have e21 : h19 = h21 := k21.1.symm
                subst e21
                refine ok_ob1 (u_X9_halves r21) (fun r22 k22 => ?_)
                unfold f_X9_brought_79
                exact ok_some ⟨s19, trivial⟩
            · unfold f_X9_brought_66
              refine ok_ob2 (u_X9_ofGoose h p1 3 ((SM_refl hI)).1 (by have := w0; have := fb_rng (p1); omega) (by have := w0; have : (3 : Int32).toInt = 3 := rfl; omega)) (fun r23 h23 k23 => ?_)
              have e23 : h = h23 := k23.1.symm
              subst e23
              refine ok_ob1 (u_X9_halves r23) (fun r24 k24 => ?_)
              unfold f_X9_brought_79
              exact ok_some ⟨(SM_refl hI), trivial⟩
          · unfold f_X9_brought_51
            exact ok_some ⟨(SM_refl hI), trivial⟩
  · unfold f_X9_brought_51
    exact ok_some ⟨(SM_refl hI), trivial⟩
theorem u_X9_knownBy_6 {h0 : HS} (x1 : Int32) (x2 : Int32) (x3 : Int32) : ∀ (n : Nat) (h : HS) (x4 : Int32) (x5 : Int32), SM h0 h → 0 ≤ x5.toInt → 0 < n → (10 - (x5).toInt : Int) < (n : Int) → ok (f_X9_knownBy_6  n h x1 x2 x3 x4 x5) (fun a => SM h0 a.2 ∧ True) := by
  intro n
  induction n with
  | zero =>
    intro h x4 x5 hSC i0 hn hm
    exact absurd hn (by decide)
  | succ n ih_X9_knownBy_6 =>
    intro h x4 x5 hSC i0 hn hm
    rw [f_X9_knownBy_6_s]
    refine ok_if (fun c1 => ?_) (fun c1 => ?_)
    · exact ok_some ⟨hSC, trivial⟩
    · refine ok_ob2 (u_X9_brought h x5 x1 x2 x3 (hSC).1 (by have := IM_n hSC.1; have := i0; have := hm; have := gi_of_nle c1; have := fb_rng ((eA h 0 0) 1); have := fb_rng (x5); omega)) (fun r2 h2 k2 => ?_)
      have s2 : SM h0 h2 := SM_trans (b := h) hSC k2.1
      exact ih_X9_knownBy_6 h2 (x4 ||| r2) (x5 + 1) s2 (by have := IM_n hSC.1; have := i0; have := hm; have := gi_of_nle c1; have : (1 : Int32).toInt = 1 := rfl; have := fb_rng ((eA h 0 0) 1); have := fb_rng (x5); (try have := fb_addI (x := x5) (y := 1) (by omega) (by omega)); omega) (by have := IM_n hSC.1; have := i0; have := hm; have := gi_of_nle c1; have : (1 : Int32).toInt = 1 := rfl; have := fb_rng ((eA h 0 0) 1); have := fb_rng (x5); (try have := fb_addI (x := x5) (y := 1) (by omega) (by omega)); omega) (by have := IM_n hSC.1; have := i0; have := hm; have := gi_of_nle c1; have : (1 : Int32).toInt = 1 := rfl; have := fb_rng ((eA h 0 0) 1); have := fb_rng (x5); (try have := fb_addI (x := x5) (y := 1) (by omega) (by omega)); omega)
theorem u_X9_knownBy (h : HS) (p1 : Int32) (p2 : Int32) (p3 : Int32) (hI : IM h) : ok (f_X9_knownBy h p1 p2 p3) (fun a => SM h a.2 ∧ True) := by
  unfold f_X9_knownBy
  exact u_X9_knownBy_6 (h0 := h) p1 p2 p3 8589934592 h 0 0 (SM_refl hI) (by have : (0 : Int32).toInt = 0 := rfl; omega) (by decide) (by have : (0 : Int32).toInt = 0 := rfl; omega)
theorem u_X9_known (h : HS) (p1 : Int32) (p2 : Int32) (hI : IM h) : ok (f_X9_known h p1 p2) (fun a => SM h a.2 ∧ True) := by
  unfold f_X9_known
  refine ok_ob1 (u_X9_isLetterNumber p1) (fun r1 k1 => ?_)
  refine ok_if (fun c2 => ?_) (fun c2 => ?_)
  · unfold f_X9_known_18
    exact ok_some ⟨(SM_refl hI), trivial⟩
  · refine ok_ob1 (u_X9_in p2 0 999) (fun r3 k3 => ?_)
    refine ok_if (fun c4 => ?_) (fun c4 => ?_)
    · unfold f_X9_known_18
      exact ok_some ⟨(SM_refl hI), trivial⟩
    · refine ok_ob2 (u_X9_knownBy h p1 p2 0 ((SM_refl hI)).1) (fun r5 h5 k5 => ?_)
      have s5 : SM h h5 := SM_trans (b := h) (SM_refl hI) k5.1
      refine ok_if (fun c6 => ?_) (fun c6 => ?_)
      · unfold f_X9_known_36
        refine ok_ob2 (u_X9_knownBy h5 p1 p2 1 (s5).1) (fun r7 h7 k7 => ?_)
        have s7 : SM h h7 := SM_trans (b := h5) s5 k7.1
        refine ok_if (fun c8 => ?_) (fun c8 => ?_)
        · unfold f_X9_known_52
          exact ok_some ⟨s7, trivial⟩
        · unfold f_X9_known_52
          exact ok_some ⟨s7, trivial⟩
      · unfold f_X9_known_36
        refine ok_ob2 (u_X9_knownBy h5 p1 p2 1 (s5).1) (fun r9 h9 k9 => ?_)
        have s9 : SM h h9 := SM_trans (b := h5) s5 k9.1
        refine ok_if (fun c10 => ?_) (fun c10 => ?_)
        · unfold f_X9_known_52
          exact ok_some ⟨s9, trivial⟩
        · unfold f_X9_known_52
          exact ok_some ⟨s9, trivial⟩
theorem u_X9_led_25 {h0 : HS} (x1 x2 x4 : Int32) (i4 : 0 ≤ x4.toInt) {k14 : HS → Int32 → Int32 → Int32 → Int32 → Option (Int32 × HS)} (hk : ∀ (h : HS) (x3 : Int32), SM h0 h → ok (k14 h x1 x2 x3 (x4 + 1)) (fun a => SM h0 a.2 ∧ (a.1.toInt = -1 ∨ (0 ≤ a.1.toInt ∧ a.1.toInt ≤ 9)))) : ∀ (n : Nat) (h : HS) (x3 x5 : Int32), SM h0 h → 0 ≤ x5.toInt → 0 < n → (10 - (x5).toInt : Int) < (n : Int) → ok (f_X9_led_25 k14 n h x1 x2 x3 x4 x5) (fun a => SM h0 a.2 ∧ (a.1.toInt = -1 ∨ (0 ≤ a.1.toInt ∧ a.1.toInt ≤ 9))) := by
  intro n
  induction n with
  | zero => intro h x3 x5 s i0 hn hm; exact absurd hn (by decide)
  | succ n ih =>
    intro h x3 x5 s i0 hn hm
    rw [f_X9_led_25_s]
    unfold f_X9_led_70
    refine ok_if (fun c => hk h x3 s) (fun c => ?_)
    have d := gi_of_nle c
    have hn := IM_n s.1
    have z1 : (1 : Int32).toInt = 1 := rfl
    have e := fb_addI (x := x5) (y := 1) (by omega) (by omega)
    refine ok_ob2 (u_X9_ofGoose h x5 7 s.1 (by omega) (by decide)) (fun r4 h4 k4 => ?_)
    have e1 : h = h4 := k4.1.symm
    subst e1
    refine ok_if (fun c => ?_) (fun c => ih h x3 (x5 + 1) s (by omega) (by omega) (by omega))
    refine ok_ob2 (u_X9_brought h x5 x1 x4 x2 s.1 (by omega)) (fun r7 h7 k7 => ?_)
    have s7 := SM_trans s k7.1
    exact ok_if (fun c => ok_some ⟨s7, Or.inr (by show 0 ≤ x5.toInt ∧ x5.toInt ≤ 9; omega)⟩) (fun c => ih h7 _ (x5 + 1) s7 (by omega) (by omega) (by omega))
theorem u_X9_led_14 {h0 : HS} (x1 x2 : Int32) : ∀ (n : Nat) (h : HS) (x3 x4 : Int32), SM h0 h → 0 ≤ x4.toInt → 0 < n → (1000 - (x4).toInt : Int) < (n : Int) → ok (f_X9_led_14 n h x1 x2 x3 x4) (fun a => SM h0 a.2 ∧ (a.1.toInt = -1 ∨ (0 ≤ a.1.toInt ∧ a.1.toInt ≤ 9))) := by
  intro n
  induction n with
  | zero => intro h x3 x4 s i0 hn hm; exact absurd hn (by decide)
  | succ n ih =>
    intro h x3 x4 s i0 hn hm
    rw [f_X9_led_14_s]
    refine ok_if (fun c => ok_some ⟨s, Or.inl rfl⟩) (fun c => ?_)
    have d := gi_of_nle c
    have z1 : (1 : Int32).toInt = 1 := rfl; have z1000 : (1000 : Int32).toInt = 1000 := rfl
    have e := fb_addI (x := x4) (y := 1) (by omega) (by omega)
    exact u_X9_led_25 x1 x2 x4 i0 (fun h y s => ih h y (x4 + 1) s (by omega) (by omega) (by omega)) _ h x3 0 s (by decide) (by decide) (by have : (0 : Int32).toInt = 0 := rfl; omega)
theorem u_X9_led (h : HS) (p1 p2 : Int32) (hI : IM h) : ok (f_X9_led h p1 p2) (fun a => SM h a.2 ∧ (a.1.toInt = -1 ∨ (0 ≤ a.1.toInt ∧ a.1.toInt ≤ 9))) := by
  unfold f_X9_led
  refine ok_ob1 (u_X9_isLetterNumber p1) (fun r1 k1 => ?_)
  exact ok_if (fun c => ok_some ⟨SM_refl hI, Or.inl rfl⟩) (fun c => u_X9_led_14 p1 p2 _ h 0 0 (SM_refl hI) (by decide) (by decide) (by have : (0 : Int32).toInt = 0 := rfl; omega))
