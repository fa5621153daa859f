theorem lev_0 {B : Int → Int} {L : Int} {P : Nat → Int} {d : Nat} {n : Nat} (ih1 : OneS_0 B L P d n) (ih2 : AskS_0 B L P d n) (ih3 : LevS_0 B L P d n) : LevS_0 B L P d (n + 1) := by
  have z0 : (0 : Int32).toInt = 0 := rfl
  have z1 : (1 : Int32).toInt = 1 := rfl
  have z2 : (2 : Int32).toInt = 2 := rfl
  have z3 : (3 : Int32).toInt = 3 := rfl
  have z5 : (5 : Int32).toInt = 5 := rfl
  intro l h h' g N r op e l0 l5 x st fr t7 t3 stp et
  replace e : f_X2_readLevel_0_b (fun h p1 p2 => G_read_0 n 0 h p1 p2) (fun h p1 => G_read_0 n 1 h p1 0) (fun h p1 => G_read_0 n 2 h p1 0) h l op = some h' := e
  unfold f_X2_readLevel_0_b at e
  by_cases c2 : l = 2
  · rw [if_pos c2] at e
    have d2 := gi_of_eq c2
    obtain ⟨h5, e5, e⟩ := ob1_some e
    obtain rfl : h5 = h' := Option.some.inj e
    rcases ih2 h h5 g N r op e5 x (by omega) fr et with bad | ⟨N2, m, g1, g2, eo, et2, R⟩
    · exact Or.inl bad
    · have top : eA g1 0 23 ((eI g1 0 22).toInt.toNat - 1) = eA g 0 23 ((eI g 0 22).toInt.toNat - 1) := by
        rw [R.2.2.2.1.1]; exact R.2.2.2.1.2.2.1 _ (by omega)
      rcases mp_ask eo with ⟨-, q⟩ | ⟨q, -⟩
      · subst q
        refine Or.inr ⟨N2, _, [], et2, RES_st R, Or.inl ⟨by omega, rfl⟩, fun p hp => absurd hp List.not_mem_nil, ?_⟩
        unfold NOP
        omega
      · rw [top] at q; exact absurd q t3
  · rw [if_neg c2] at e
    have d2 := gi_of_ne c2
    by_cases c5 : l = 5
    · rw [if_pos c5] at e
      have d5 := gi_of_eq c5
      obtain ⟨h5, e5, e⟩ := ob1_some e
      obtain rfl : h5 = h' := Option.some.inj e
      rcases ih1 h h5 g N r op e5 x (by omega) fr et with bad | ⟨N2, m, g1, g2, eo, et2, R⟩
      · exact Or.inl bad
      · have top : eA g1 0 23 ((eI g1 0 22).toInt.toNat - 1) = eA g 0 23 ((eI g 0 22).toInt.toNat - 1) := by
          rw [R.2.2.2.1.1]; exact R.2.2.2.1.2.2.1 _ (by omega)
        rcases mp_one eo with ⟨-, q⟩ | ⟨q, -⟩
        · subst q
          refine Or.inr ⟨N2, _, [], et2, RES_st R, Or.inr ⟨by omega, rfl⟩, fun p hp => absurd hp List.not_mem_nil, ?_⟩
          have sp := lv_spec (kd h5)
          unfold NOP
          omega
        · rw [top] at q; exact absurd q t7
    · rw [if_neg c5] at e
      have d5 := gi_of_ne c5
      obtain ⟨h3, e3, e⟩ := ob1_some e
      have al := fb_addI (x := l) (y := 1) (by omega) (by omega)
      have rs := rl_spec l.toInt
      have rs1 := rl_spec (l.toInt + 1)
      have stp1 : STOP (eA g 0 26) (eA g 0 27) (eI g 0 22).toInt (rl (l + 1).toInt) (eI g 0 25).toInt.toNat := by
        rcases stp with q | ⟨k, q1, q2 | q2⟩
        · exact Or.inl q
        · exact Or.inr ⟨k, q1, Or.inl q2⟩
        · refine Or.inr ⟨k, q1, Or.inr ?_⟩
          rw [show (l + 1).toInt = l.toInt + 1 by omega]
          omega
      rcases ih3 (l + 1) h h3 g N r op e3 (by omega) (by omega) x (by omega) fr t7 t3 stp1 et with bad | ⟨N2, g2, ps, et2, R, s2, rks, nop⟩
      · have eh' : h' = h3 := by
          rw [show (8589934592 : Nat) = 8589934591 + 1 from rfl, f_X2_readLevel_0_42_s] at e
          unfold f_X2_readLevel_0_105 at e
          rw [if_neg (by decide), if_neg bad.1] at e
          cases e; rfl
        rw [eh']
        exact Or.inl bad
      · refine rdloop_0 ih3 ⟨l0, by omega, by omega⟩ x fr t7 t3 stp rfl _ h3 g2 0 N2 ps e R (w_G_read_0 _ _ _ _ _ _ e3) (by omega) (fun p hp => ?_) (by rw [← show (l + 1).toInt = l.toInt + 1 by omega]; exact nop) (by decide) ?_ et2
        · have := rks p hp
          rw [show (l + 1).toInt = l.toInt + 1 by omega] at this
          omega
        · have := (TT_at R.1).1
          omega
theorem read_0 (B : Int → Int) (L : Int) (P : Nat → Int) (d : Nat) : ∀ n : Nat, OneS_0 B L P d n ∧ AskS_0 B L P d n ∧ LevS_0 B L P d n := by
  intro n
  induction n with
  | zero =>
    refine ⟨?_, ?_, ?_⟩
    · intro h h' g N r op e
      exact absurd e (by simp [G_read_0])
    · intro h h' g N r op e
      exact absurd e (by simp [G_read_0])
    · intro l h h' g N r op e
      exact absurd e (by simp [G_read_0])
  | succ n ih => exact ⟨one_0 ih.1 ih.2.2, ask_0 ih.2.1 ih.2.2, lev_0 ih.1 ih.2.1 ih.2.2⟩

