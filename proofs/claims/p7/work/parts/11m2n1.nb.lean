/-! text 1: no step of a law of ink or of the code asks for the market -/
theorem nb_add_1 {h h' : HS} {s : Int32} (e : f_X6_addStep_1 h s = some h') (q : 2 ≤ (eI h 5 2).toInt → NBS s) : NBR 10 h h' := by
  have z1 : (1 : Int32).toInt = 1 := rfl
  unfold f_X6_addStep_1 f_X6_addStep_1_32 at e
  by_cases c : (300 : Int32) ≤ eI h 10 5
  · rw [if_pos c] at e
    cases e
    exact NBR_refl _ _
  · rw [if_neg c] at e
    obtain ⟨d, e⟩ := ob_if e
    cases e
    refine ⟨rfl, fun l F k i i1 i2 => ?_⟩
    have a := fb_addI (x := eI h 10 5) (y := 1) (by omega) (by omega)
    have i2 : (i : Int) < (eI h 10 5 + 1).toInt := i2
    show NBS (upd (eA h 10 2) (eI h 10 5).toNatClampNeg s i)
    have ix : (eI h 10 5).toNatClampNeg = (eI h 10 5).toInt.toNat := rfl
    rw [ix]
    unfold upd
    by_cases c2 : i = (eI h 10 5).toInt.toNat
    · rw [if_pos c2]; exact q l
    · rw [if_neg c2]; exact k i i1 (by omega)
theorem nb_value_1 {h h' : HS} (e : f_X2_readValue_1 h = some h') : NBR 10 h h' := by
  have z9999 : (9999 : Int32).toInt = 9999 := rfl
  unfold f_X2_readValue_1 at e
  obtain ⟨r1, h1, e1, e⟩ := ob2_some e
  obtain rfl : h = h1 := (cp_value_same e1).symm
  by_cases c : r1 ≤ 9999
  · rw [if_pos c] at e
    have d := gi_of_le c
    obtain ⟨r3, h3, e3, e⟩ := ob2_some e
    obtain rfl : h = h3 := (cp_value_same e3).symm
    have er := same_arg e1 e3
    obtain rfl : r1 = r3 := congrArg Prod.fst er
    obtain ⟨h4, e4, e⟩ := ob1_some e
    obtain ⟨h5, e5, e⟩ := ob1_some e
    cases e
    exact NBR_trans (nb_add_1 e4 (fun _ => Or.inl (by omega))) (NBR_fr (w_f_X7_advance _ _ e5) (by decide) (by decide) (by decide))
  · rw [if_neg c] at e
    obtain ⟨h6, e6, e⟩ := ob1_some e
    cases e
    exact NBR_fr (w_f_X2_fail _ _ _ e6) (by decide) (by decide) (by decide)
theorem nb_name_1 {h h' : HS} (e : f_X2_readName_1 h = some h') : NBR 10 h h' := by
  have z35 : (35 : Int32).toInt = 35 := rfl
  have z29 : (29 : Int32).toInt = 29 := rfl
  have z0 : (0 : Int32).toInt = 0 := rfl
  have z1 : (1 : Int32).toInt = 1 := rfl
  have z10000 : (10000 : Int32).toInt = 10000 := rfl
  have tl : ∀ (h0 : HS) (r1 : Int32), f_X7_kind h0 = some (r1, h0) → (2 ≤ (eI h0 5 2).toInt → r1.toInt < 35) → f_X2_readName_1_31 h0 = some h' → NBR 10 h0 h' := by
    intro h0 r1 e1 q e
    unfold f_X2_readName_1_31 at e
    obtain ⟨r6, h6, e6, e⟩ := ob2_some e
    obtain rfl : h0 = h6 := (cp_kind_same e6).symm
    obtain rfl : r1 = r6 := congrArg Prod.fst (same_arg e1 e6)
    obtain ⟨h7, e7, e⟩ := ob1_some e
    obtain ⟨h8, e8, e⟩ := ob1_some e
    cases e
    refine NBR_trans (nb_add_1 e7 (fun l => Or.inl ?_)) (NBR_fr (w_f_X7_advance _ _ e8) (by decide) (by decide) (by decide))
    have k := q l
    have r := fb_rng r1
    have a := fb_addI (x := 10000) (y := r1) (by omega) (by omega)
    have b := fb_subI (x := 10000 + r1) (y := 29) (by omega) (by omega)
    omega
  unfold f_X2_readName_1 at e
  obtain ⟨r1, h1, e1, e⟩ := ob2_some e
  obtain rfl : h = h1 := (cp_kind_same e1).symm
  by_cases c : r1 < 35
  · rw [if_pos c] at e
    have d := gi_of_lt c
    exact tl h r1 e1 (fun _ => by omega) e
  · rw [if_neg c] at e
    by_cases c0 : eI h 5 2 = 0
    · rw [if_pos c0] at e
      have d := gi_of_eq c0
      exact tl h r1 e1 (fun _ => by omega) e
    · rw [if_neg c0] at e
      by_cases c1 : eI h 5 2 = 1
      · rw [if_pos c1] at e
        have d := gi_of_eq c1
        exact tl h r1 e1 (fun _ => by omega) e
      · rw [if_neg c1] at e
        obtain ⟨h5, e5, e⟩ := ob1_some e
        cases e
        exact NBR_fr (w_f_X2_fail _ _ _ e5) (by decide) (by decide) (by decide)
theorem nb_opens_1 {h : HS} {p : Int32} {z : Int32 × HS} (e : f_X2_opens h p = some z) : NBR 10 h z.2 := NBR_fr (w_f_X2_opens _ _ _ e) (by decide) (by decide) (by decide)
theorem nb_loop_1 {n : Nat} (ih3 : ∀ (l : Int32) (h h' : HS) (op : Int32), G_read_1 n 0 h l op = some h' → 0 ≤ l.toInt → l.toInt ≤ 5 → NBR 10 h h') {l op : Int32} (hl : 0 ≤ l.toInt ∧ l.toInt ≤ 4) {h' : HS} : ∀ (k : Nat) (h3 : HS) (x5 : Int32), f_X2_readLevel_1_42 (fun h p1 p2 => G_read_1 n 0 h p1 p2) (fun h p1 => G_read_1 n 1 h p1 0) (fun h p1 => G_read_1 n 2 h p1 0) k h3 l op x5 = some h' → NBR 10 h3 h' := by
  have z1 : (1 : Int32).toInt = 1 := rfl
  have z20000 : (20000 : Int32).toInt = 20000 := rfl
  have al := fb_addI (x := l) (y := 1) (by omega) (by omega)
  intro k
  induction k with
  | zero => intro h3 x5 e; cases e
  | succ k ihk =>
    intro h3 x5 e
    rw [f_X2_readLevel_1_42_s] at e
    unfold f_X2_readLevel_1_105 at e
    have stop : some h3 = some h' → NBR 10 h3 h' := by
      intro q
      cases q
      exact NBR_refl _ _
    by_cases c1 : (300 : Int32) ≤ x5
    · rw [if_pos c1] at e; exact stop e
    · rw [if_neg c1] at e
      by_cases p0 : eI h3 5 0 = 0
      · rw [if_pos p0] at e
        obtain ⟨r8, h8, e8, e⟩ := ob2_some e
        obtain rfl : h3 = h8 := (cp_kind_same e8).symm
        obtain ⟨r9, e9, e⟩ := ob1_some e
        have u9 := cp_levelOf e9
        by_cases c9 : r9 = l
        · rw [if_pos c9] at e
          have d9 := gi_of_eq c9
          obtain ⟨r11, h11, e11, e⟩ := ob2_some e
          obtain rfl : h3 = h11 := (cp_kind_same e11).symm
          obtain rfl : r8 = r11 := congrArg Prod.fst (same_arg e8 e11)
          obtain ⟨h12, e12, e⟩ := ob1_some e
          obtain ⟨h13, e13, e⟩ := ob1_some e
          obtain ⟨h14, e14, e⟩ := ob1_some e
          have sp := lv_spec r8.toInt
          have us := fb_addI (x := 20000) (y := r8) (by omega) (by omega)
          have s1 : NBR 10 h3 h12 := NBR_fr (w_f_X7_advance _ _ e12) (by decide) (by decide) (by decide)
          have s2 : NBR 10 h12 h13 := ih3 (l + 1) h12 h13 op e13 (by omega) (by omega)
          have s3 : NBR 10 h13 h14 := nb_add_1 e14 (fun _ => Or.inr (by omega))
          exact NBR_trans (NBR_trans s1 (NBR_trans s2 s3)) (ihk h14 (x5 + 1) e)
        · rw [if_neg c9] at e; exact stop e
      · rw [if_neg p0] at e; exact stop e
theorem nb_all_1 : ∀ n : Nat, (∀ (h h' : HS) (op : Int32), G_read_1 n 2 h op 0 = some h' → NBR 10 h h') ∧ (∀ (h h' : HS) (op : Int32), G_read_1 n 1 h op 0 = some h' → NBR 10 h h') ∧ (∀ (l : Int32) (h h' : HS) (op : Int32), G_read_1 n 0 h l op = some h' → 0 ≤ l.toInt → l.toInt ≤ 5 → NBR 10 h h') := by
  have z0 : (0 : Int32).toInt = 0 := rfl
  have z1 : (1 : Int32).toInt = 1 := rfl
  have z2 : (2 : Int32).toInt = 2 := rfl
  have z3 : (3 : Int32).toInt = 3 := rfl
  have z5 : (5 : Int32).toInt = 5 := rfl
  have z8 : (8 : Int32).toInt = 8 := rfl
  have z20000 : (20000 : Int32).toInt = 20000 := rfl
  intro n
  induction n with
  | zero =>
    refine ⟨?_, ?_, ?_⟩
    · intro h h' op e
      exact absurd e (by simp [G_read_1])
    · intro h h' op e
      exact absurd e (by simp [G_read_1])
    · intro l h h' op e
      exact absurd e (by simp [G_read_1])
  | succ n ih =>
    obtain ⟨ih1, ih2, ih3⟩ := ih
    refine ⟨?_, ?_, ?_⟩
    · intro h h' op e
      have e : f_X2_readOne_1_b (fun h p1 p2 => G_read_1 n 0 h p1 p2) (fun h p1 => G_read_1 n 1 h p1 0) (fun h p1 => G_read_1 n 2 h p1 0) h op = some h' := e
      unfold f_X2_readOne_1_b f_X2_readOne_1_121 at e
      obtain ⟨r1, h1, e1, e⟩ := ob2_some e
      obtain rfl : h = h1 := (cp_kind_same e1).symm
      have t44 : f_X2_readOne_1_44 (fun h p1 p2 => G_read_1 n 0 h p1 p2) (fun h p1 => G_read_1 n 1 h p1 0) (fun h p1 => G_read_1 n 2 h p1 0) h op r1 = some h' → NBR 10 h h' := by
        intro e
        unfold f_X2_readOne_1_44 f_X2_readOne_1_121 at e
        by_cases c13 : r1 = 13
        · rw [if_pos c13] at e
          obtain ⟨r14, h14, e14, e⟩ := ob2_some e
          have s1 : NBR 10 h h14 := nb_opens_1 e14
          by_cases c : r14 = 0
          · rw [if_pos c] at e; cases e; exact s1
          · rw [if_neg c] at e
            obtain ⟨h16, e16, e⟩ := ob1_some e
            obtain ⟨h17, e17, e⟩ := ob1_some e
            cases e
            exact NBR_trans s1 (NBR_trans (ih3 3 h14 h16 _ e16 (by omega) (by omega)) (NBR_fr (w_f_X2_expect _ _ _ e17) (by decide) (by decide) (by decide)))
        · rw [if_neg c13] at e
          by_cases c10 : r1 = 10
          · rw [if_pos c10] at e
            obtain ⟨r14, h14, e14, e⟩ := ob2_some e
            have s1 : NBR 10 h h14 := nb_opens_1 e14
            by_cases c : r14 = 0
            · rw [if_pos c] at e; cases e; exact s1
            · rw [if_neg c] at e
              obtain ⟨h16, e16, e⟩ := ob1_some e
              obtain ⟨h17, e17, e⟩ := ob1_some e
              cases e
              exact NBR_trans s1 (NBR_trans (ih1 h14 h16 _ e16) (nb_add_1 e17 (fun _ => Or.inr (by decide))))
          · rw [if_neg c10] at e
            obtain ⟨h9, e9, e⟩ := ob1_some e
            cases e
            exact NBR_fr (w_f_X2_fail _ _ _ e9) (by decide) (by decide) (by decide)
      by_cases c2 : r1 = 2
      · rw [if_pos c2] at e
        obtain ⟨h6, e6, e⟩ := ob1_some e
        cases e
        exact nb_value_1 e6
      · rw [if_neg c2] at e
        by_cases c29 : r1 < 29
        · rw [if_pos c29] at e; exact t44 e
        · rw [if_neg c29] at e
          by_cases c37 : (37 : Int32) < r1
          · rw [if_pos c37] at e; exact t44 e
          · rw [if_neg c37] at e
            obtain ⟨h5, e5, e⟩ := ob1_some e
            cases e
            exact nb_name_1 e5
    · intro h h' op e
      have e : f_X2_readAsk_1_b (fun h p1 p2 => G_read_1 n 0 h p1 p2) (fun h p1 => G_read_1 n 1 h p1 0) (fun h p1 => G_read_1 n 2 h p1 0) h op = some h' := e
      unfold f_X2_readAsk_1_b at e
      obtain ⟨r1, h1, e1, e⟩ := ob2_some e
      obtain rfl : h = h1 := (cp_kind_same e1).symm
      by_cases c28 : r1 = 28
      · rw [if_pos c28] at e
        obtain ⟨r7, h7, e7, e⟩ := ob2_some e
        have s1 : NBR 10 h h7 := nb_opens_1 e7
        by_cases c : r7 = 0
        · rw [if_pos c] at e
          unfold f_X2_readAsk_1_34 at e
          cases e
          exact s1
        · rw [if_neg c] at e
          obtain ⟨h9, e9, e⟩ := ob1_some e
          obtain ⟨h10, e10, e⟩ := ob1_some e
          unfold f_X2_readAsk_1_34 at e
          cases e
          exact NBR_trans s1 (NBR_trans (ih2 h7 h9 _ e9) (nb_add_1 e10 (fun _ => Or.inr (by decide))))
      · rw [if_neg c28] at e
        obtain ⟨h3, e3, e⟩ := ob1_some e
        have s1 : NBR 10 h h3 := ih3 3 h h3 op e3 (by omega) (by omega)
        obtain ⟨r4, h4, e4, e⟩ := ob2_some e
        obtain rfl : h3 = h4 := (cp_kind_same e4).symm
        have t62 : f_X2_readAsk_1_62 (fun h p1 p2 => G_read_1 n 0 h p1 p2) (fun h p1 => G_read_1 n 1 h p1 0) (fun h p1 => G_read_1 n 2 h p1 0) h3 op r4 = some h' → NBR 10 h3 h' := by
          intro e
          unfold f_X2_readAsk_1_62 at e
          obtain ⟨h5, e5, e⟩ := ob1_some e
          have nz := fail_nz e5 (by decide)
          unfold f_X2_readAsk_1_68 f_X2_readAsk_1_97 at e
          rw [if_neg nz] at e
          cases e
          exact NBR_fr (w_f_X2_fail _ _ _ e5) (by decide) (by decide) (by decide)
        by_cases c3 : r4 < 3
        · rw [if_pos c3] at e; exact NBR_trans s1 (t62 e)
        · rw [if_neg c3] at e
          have d3 := gi_of_nlt c3
          by_cases c8 : r4 ≤ 8
          · rw [if_pos c8] at e
            have d8 := gi_of_le c8
            unfold f_X2_readAsk_1_68 f_X2_readAsk_1_97 at e
            by_cases p0 : eI h3 5 0 = 0
            · rw [if_pos p0] at e
              obtain ⟨h13, e13, e⟩ := ob1_some e
              obtain ⟨h14, e14, e⟩ := ob1_some e
              obtain ⟨h15, e15, e⟩ := ob1_some e
              cases e
              have us := fb_addI (x := 20000) (y := r4) (by omega) (by omega)
              have s2 : NBR 10 h3 h13 := NBR_fr (w_f_X7_advance _ _ e13) (by decide) (by decide) (by decide)
              have s3 : NBR 10 h13 h14 := ih3 3 h13 h14 op e14 (by omega) (by omega)
              exact NBR_trans s1 (NBR_trans s2 (NBR_trans s3 (nb_add_1 e15 (fun _ => Or.inr (by omega)))))
            · rw [if_neg p0] at e
              cases e
              exact s1
          · rw [if_neg c8] at e; exact NBR_trans s1 (t62 e)
    · intro l h h' op e l0 l5
      have e : f_X2_readLevel_1_b (fun h p1 p2 => G_read_1 n 0 h p1 p2) (fun h p1 => G_read_1 n 1 h p1 0) (fun h p1 => G_read_1 n 2 h p1 0) h l op = some h' := e
      unfold f_X2_readLevel_1_b at e
      by_cases c2 : l = 2
      · rw [if_pos c2] at e
        obtain ⟨h5, e5, e⟩ := ob1_some e
        cases e
        exact ih2 h h' op e5
      · rw [if_neg c2] at e
        by_cases c5 : l = 5
        · rw [if_pos c5] at e
          obtain ⟨h5, e5, e⟩ := ob1_some e
          cases e
          exact ih1 h h' op e5
        · rw [if_neg c5] at e
          have d5 := gi_of_ne c5
          have al := fb_addI (x := l) (y := 1) (by omega) (by omega)
          obtain ⟨h3, e3, e⟩ := ob1_some e
          exact NBR_trans (ih3 (l + 1) h h3 op e3 (by omega) (by omega)) (nb_loop_1 ih3 ⟨l0, by omega⟩ _ h3 0 e)
