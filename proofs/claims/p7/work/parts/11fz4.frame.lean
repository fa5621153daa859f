theorem w_f_X2_readLevel_1_b (kR_X2_readLevel : HS → Int32 → Int32 → Option HS) (hk_kR_X2_readLevel : ∀ (h : HS) (x0 : Int32) (x1 : Int32), pk (kR_X2_readLevel h x0 x1) (fun a => Fr S_read_1 h a)) (kR_X2_readAsk : HS → Int32 → Option HS) (hk_kR_X2_readAsk : ∀ (h : HS) (x0 : Int32), pk (kR_X2_readAsk h x0) (fun a => Fr S_read_1 h a)) (kR_X2_readOne : HS → Int32 → Option HS) (hk_kR_X2_readOne : ∀ (h : HS) (x0 : Int32), pk (kR_X2_readOne h x0) (fun a => Fr S_read_1 h a)) (h : HS) (p1 : Int32) (p2 : Int32) : pk (f_X2_readLevel_1_b kR_X2_readLevel kR_X2_readAsk kR_X2_readOne h p1 p2) (fun a => Fr S_read_1 h a) := by
  unfold f_X2_readLevel_1_b
  refine pk_if (fun _ => ?_) (fun _ => ?_)
  · refine pk_ob1 (hk_kR_X2_readAsk h p2) (fun h_5 k_1 => ?_)
    replace k_1 := Fr_trans (Fr_refl _ h) k_1
    exact pk_some k_1
  · refine pk_if (fun _ => ?_) (fun _ => ?_)
    · refine pk_ob1 (hk_kR_X2_readOne h p2) (fun h_4 k_2 => ?_)
      replace k_2 := Fr_trans (Fr_refl _ h) k_2
      exact pk_some k_2
    · refine pk_ob1 (hk_kR_X2_readLevel h (p1 + 1) p2) (fun h_3 k_3 => ?_)
      replace k_3 := Fr_trans (Fr_refl _ h) k_3
      exact pk_mono (w_f_X2_readLevel_1_42 kR_X2_readLevel hk_kR_X2_readLevel kR_X2_readAsk hk_kR_X2_readAsk kR_X2_readOne hk_kR_X2_readOne 8589934592 h_3 p1 p2 0) (fun _ k => Fr_trans k_3 k)
theorem w_f_X2_readAsk_1_97 (kR_X2_readLevel : HS → Int32 → Int32 → Option HS) (hk_kR_X2_readLevel : ∀ (h : HS) (x0 : Int32) (x1 : Int32), pk (kR_X2_readLevel h x0 x1) (fun a => Fr S_read_1 h a)) (kR_X2_readAsk : HS → Int32 → Option HS) (hk_kR_X2_readAsk : ∀ (h : HS) (x0 : Int32), pk (kR_X2_readAsk h x0) (fun a => Fr S_read_1 h a)) (kR_X2_readOne : HS → Int32 → Option HS) (hk_kR_X2_readOne : ∀ (h : HS) (x0 : Int32), pk (kR_X2_readOne h x0) (fun a => Fr S_read_1 h a)) (h : HS) : pk (f_X2_readAsk_1_97 kR_X2_readLevel kR_X2_readAsk kR_X2_readOne h) (fun a => Fr S_read_1 h a) := by
  unfold f_X2_readAsk_1_97
  exact pk_some (Fr_refl _ h)
theorem w_f_X2_readAsk_1_68 (kR_X2_readLevel : HS → Int32 → Int32 → Option HS) (hk_kR_X2_readLevel : ∀ (h : HS) (x0 : Int32) (x1 : Int32), pk (kR_X2_readLevel h x0 x1) (fun a => Fr S_read_1 h a)) (kR_X2_readAsk : HS → Int32 → Option HS) (hk_kR_X2_readAsk : ∀ (h : HS) (x0 : Int32), pk (kR_X2_readAsk h x0) (fun a => Fr S_read_1 h a)) (kR_X2_readOne : HS → Int32 → Option HS) (hk_kR_X2_readOne : ∀ (h : HS) (x0 : Int32), pk (kR_X2_readOne h x0) (fun a => Fr S_read_1 h a)) (h : HS) (x3 : Int32) (x4 : Int32) : pk (f_X2_readAsk_1_68 kR_X2_readLevel kR_X2_readAsk kR_X2_readOne h x3 x4) (fun a => Fr S_read_1 h a) := by
  unfold f_X2_readAsk_1_68
  refine pk_if (fun _ => ?_) (fun _ => ?_)
  · refine pk_ob1 (w_f_X7_advance h) (fun h_13 k_1 => ?_)
    replace k_1 := Fr_trans (Fr_refl _ h) (Fr_mono fs_X7_advance__read_1 k_1)
    refine pk_ob1 (hk_kR_X2_readLevel h_13 3 x3) (fun h_14 k_2 => ?_)
    replace k_2 := Fr_trans k_1 k_2
    refine pk_ob1 (w_f_X6_addStep_1 h_14 (20000 + x4)) (fun h_15 k_3 => ?_)
    replace k_3 := Fr_trans k_2 (Fr_mono fs_X6_addStep_1__read_1 k_3)
    exact pk_mono (w_f_X2_readAsk_1_97 kR_X2_readLevel hk_kR_X2_readLevel kR_X2_readAsk hk_kR_X2_readAsk kR_X2_readOne hk_kR_X2_readOne h_15) (fun _ k => Fr_trans k_3 k)
  · exact pk_mono (w_f_X2_readAsk_1_97 kR_X2_readLevel hk_kR_X2_readLevel kR_X2_readAsk hk_kR_X2_readAsk kR_X2_readOne hk_kR_X2_readOne h) (fun _ k => Fr_trans (Fr_refl _ h) k)
theorem fs_X2_fail__read_1 : ∀ x ∈ S_X2_fail, x ∈ S_read_1 := by decide
theorem w_f_X2_readAsk_1_62 (kR_X2_readLevel : HS → Int32 → Int32 → Option HS) (hk_kR_X2_readLevel : ∀ (h : HS) (x0 : Int32) (x1 : Int32), pk (kR_X2_readLevel h x0 x1) (fun a => Fr S_read_1 h a)) (kR_X2_readAsk : HS → Int32 → Option HS) (hk_kR_X2_readAsk : ∀ (h : HS) (x0 : Int32), pk (kR_X2_readAsk h x0) (fun a => Fr S_read_1 h a)) (kR_X2_readOne : HS → Int32 → Option HS) (hk_kR_X2_readOne : ∀ (h : HS) (x0 : Int32), pk (kR_X2_readOne h x0) (fun a => Fr S_read_1 h a)) (h : HS) (x3 : Int32) (x4 : Int32) : pk (f_X2_readAsk_1_62 kR_X2_readLevel kR_X2_readAsk kR_X2_readOne h x3 x4) (fun a => Fr S_read_1 h a) := by
  unfold f_X2_readAsk_1_62
  refine pk_ob1 (w_f_X2_fail h 1) (fun h_11 k_1 => ?_)
  replace k_1 := Fr_trans (Fr_refl _ h) (Fr_mono fs_X2_fail__read_1 k_1)
  exact pk_mono (w_f_X2_readAsk_1_68 kR_X2_readLevel hk_kR_X2_readLevel kR_X2_readAsk hk_kR_X2_readAsk kR_X2_readOne hk_kR_X2_readOne h_11 x3 x4) (fun _ k => Fr_trans k_1 k)
theorem w_f_X2_readAsk_1_34 (kR_X2_readLevel : HS → Int32 → Int32 → Option HS) (hk_kR_X2_readLevel : ∀ (h : HS) (x0 : Int32) (x1 : Int32), pk (kR_X2_readLevel h x0 x1) (fun a => Fr S_read_1 h a)) (kR_X2_readAsk : HS → Int32 → Option HS) (hk_kR_X2_readAsk : ∀ (h : HS) (x0 : Int32), pk (kR_X2_readAsk h x0) (fun a => Fr S_read_1 h a)) (kR_X2_readOne : HS → Int32 → Option HS) (hk_kR_X2_readOne : ∀ (h : HS) (x0 : Int32), pk (kR_X2_readOne h x0) (fun a => Fr S_read_1 h a)) (h : HS) : pk (f_X2_readAsk_1_34 kR_X2_readLevel kR_X2_readAsk kR_X2_readOne h) (fun a => Fr S_read_1 h a) := by
  unfold f_X2_readAsk_1_34
  exact pk_some (Fr_refl _ h)
theorem fs_X2_opens__read_1 : ∀ x ∈ S_X2_opens, x ∈ S_read_1 := by decide
theorem w_f_X2_readAsk_1_b (kR_X2_readLevel : HS → Int32 → Int32 → Option HS) (hk_kR_X2_readLevel : ∀ (h : HS) (x0 : Int32) (x1 : Int32), pk (kR_X2_readLevel h x0 x1) (fun a => Fr S_read_1 h a)) (kR_X2_readAsk : HS → Int32 → Option HS) (hk_kR_X2_readAsk : ∀ (h : HS) (x0 : Int32), pk (kR_X2_readAsk h x0) (fun a => Fr S_read_1 h a)) (kR_X2_readOne : HS → Int32 → Option HS) (hk_kR_X2_readOne : ∀ (h : HS) (x0 : Int32), pk (kR_X2_readOne h x0) (fun a => Fr S_read_1 h a)) (h : HS) (p1 : Int32) : pk (f_X2_readAsk_1_b kR_X2_readLevel kR_X2_readAsk kR_X2_readOne h p1) (fun a => Fr S_read_1 h a) := by
  unfold f_X2_readAsk_1_b
  refine pk_ob2 (w_f_X7_kind h) (fun r_1 h_1 k_1 => ?_)
  replace k_1 := Fr_trans (Fr_refl _ h) (Fr_mono fs_X7_kind__read_1 k_1)
  refine pk_if (fun _ => ?_) (fun _ => ?_)
  · refine pk_ob2 (w_f_X2_opens h_1 p1) (fun r_7 h_7 k_2 => ?_)
    replace k_2 := Fr_trans k_1 (Fr_mono fs_X2_opens__read_1 k_2)
    refine pk_if (fun _ => ?_) (fun _ => ?_)
    · exact pk_mono (w_f_X2_readAsk_1_34 kR_X2_readLevel hk_kR_X2_readLevel kR_X2_readAsk hk_kR_X2_readAsk kR_X2_readOne hk_kR_X2_readOne h_7) (fun _ k => Fr_trans k_2 k)
    · refine pk_ob1 (hk_kR_X2_readAsk h_7 (p1 + 1)) (fun h_9 k_3 => ?_)
      replace k_3 := Fr_trans k_2 k_3
      refine pk_ob1 (w_f_X6_addStep_1 h_9 20028) (fun h_10 k_4 => ?_)
      replace k_4 := Fr_trans k_3 (Fr_mono fs_X6_addStep_1__read_1 k_4)
      exact pk_mono (w_f_X2_readAsk_1_34 kR_X2_readLevel hk_kR_X2_readLevel kR_X2_readAsk hk_kR_X2_readAsk kR_X2_readOne hk_kR_X2_readOne h_10) (fun _ k => Fr_trans k_4 k)
  · refine pk_ob1 (hk_kR_X2_readLevel h_1 3 p1) (fun h_3 k_5 => ?_)
    replace k_5 := Fr_trans k_1 k_5
    refine pk_ob2 (w_f_X7_kind h_3) (fun r_4 h_4 k_6 => ?_)
    replace k_6 := Fr_trans k_5 (Fr_mono fs_X7_kind__read_1 k_6)
    refine pk_if (fun _ => ?_) (fun _ => ?_)
    · exact pk_mono (w_f_X2_readAsk_1_62 kR_X2_readLevel hk_kR_X2_readLevel kR_X2_readAsk hk_kR_X2_readAsk kR_X2_readOne hk_kR_X2_readOne h_4 p1 r_4) (fun _ k => Fr_trans k_6 k)
    · refine pk_if (fun _ => ?_) (fun _ => ?_)
      · exact pk_mono (w_f_X2_readAsk_1_68 kR_X2_readLevel hk_kR_X2_readLevel kR_X2_readAsk hk_kR_X2_readAsk kR_X2_readOne hk_kR_X2_readOne h_4 p1 r_4) (fun _ k => Fr_trans k_6 k)
      · exact pk_mono (w_f_X2_readAsk_1_62 kR_X2_readLevel hk_kR_X2_readLevel kR_X2_readAsk hk_kR_X2_readAsk kR_X2_readOne hk_kR_X2_readOne h_4 p1 r_4) (fun _ k => Fr_trans k_6 k)
theorem w_f_X2_readOne_1_121 (kR_X2_readLevel : HS → Int32 → Int32 → Option HS) (hk_kR_X2_readLevel : ∀ (h : HS) (x0 : Int32) (x1 : Int32), pk (kR_X2_readLevel h x0 x1) (fun a => Fr S_read_1 h a)) (kR_X2_readAsk : HS → Int32 → Option HS) (hk_kR_X2_readAsk : ∀ (h : HS) (x0 : Int32), pk (kR_X2_readAsk h x0) (fun a => Fr S_read_1 h a)) (kR_X2_readOne : HS → Int32 → Option HS) (hk_kR_X2_readOne : ∀ (h : HS) (x0 : Int32), pk (kR_X2_readOne h x0) (fun a => Fr S_read_1 h a)) (h : HS) : pk (f_X2_readOne_1_121 kR_X2_readLevel kR_X2_readAsk kR_X2_readOne h) (fun a => Fr S_read_1 h a) := by
  unfold f_X2_readOne_1_121
  exact pk_some (Fr_refl _ h)
theorem fs_X2_expect__read_1 : ∀ x ∈ S_X2_expect, x ∈ S_read_1 := by decide
theorem w_f_X2_readOne_1_44 (kR_X2_readLevel : HS → Int32 → Int32 → Option HS) (hk_kR_X2_readLevel : ∀ (h : HS) (x0 : Int32) (x1 : Int32), pk (kR_X2_readLevel h x0 x1) (fun a => Fr S_read_1 h a)) (kR_X2_readAsk : HS → Int32 → Option HS) (hk_kR_X2_readAsk : ∀ (h : HS) (x0 : Int32), pk (kR_X2_readAsk h x0) (fun a => Fr S_read_1 h a)) (kR_X2_readOne : HS → Int32 → Option HS) (hk_kR_X2_readOne : ∀ (h : HS) (x0 : Int32), pk (kR_X2_readOne h x0) (fun a => Fr S_read_1 h a)) (h : HS) (x3 : Int32) (x4 : Int32) : pk (f_X2_readOne_1_44 kR_X2_readLevel kR_X2_readAsk kR_X2_readOne h x3 x4) (fun a => Fr S_read_1 h a) := by
  unfold f_X2_readOne_1_44
  refine pk_if (fun _ => ?_) (fun _ => ?_)
  · refine pk_ob2 (w_f_X2_opens h x3) (fun r_14 h_14 k_1 => ?_)
    replace k_1 := Fr_trans (Fr_refl _ h) (Fr_mono fs_X2_opens__read_1 k_1)
    refine pk_if (fun _ => ?_) (fun _ => ?_)
    · exact pk_mono (w_f_X2_readOne_1_121 kR_X2_readLevel hk_kR_X2_readLevel kR_X2_readAsk hk_kR_X2_readAsk kR_X2_readOne hk_kR_X2_readOne h_14) (fun _ k => Fr_trans k_1 k)
    · refine pk_ob1 (hk_kR_X2_readLevel h_14 3 (x3 + 1)) (fun h_16 k_2 => ?_)
      replace k_2 := Fr_trans k_1 k_2
      refine pk_ob1 (w_f_X2_expect h_16 14) (fun h_17 k_3 => ?_)
      replace k_3 := Fr_trans k_2 (Fr_mono fs_X2_expect__read_1 k_3)
      exact pk_mono (w_f_X2_readOne_1_121 kR_X2_readLevel hk_kR_X2_readLevel kR_X2_readAsk hk_kR_X2_readAsk kR_X2_readOne hk_kR_X2_readOne h_17) (fun _ k => Fr_trans k_3 k)
  · refine pk_if (fun _ => ?_) (fun _ => ?_)
    · refine pk_ob2 (w_f_X2_opens h x3) (fun r_10 h_10 k_4 => ?_)
      replace k_4 := Fr_trans (Fr_refl _ h) (Fr_mono fs_X2_opens__read_1 k_4)
      refine pk_if (fun _ => ?_) (fun _ => ?_)
      · exact pk_mono (w_f_X2_readOne_1_121 kR_X2_readLevel hk_kR_X2_readLevel kR_X2_readAsk hk_kR_X2_readAsk kR_X2_readOne hk_kR_X2_readOne h_10) (fun _ k => Fr_trans k_4 k)
      · refine pk_ob1 (hk_kR_X2_readOne h_10 (x3 + 1)) (fun h_12 k_5 => ?_)
        replace k_5 := Fr_trans k_4 k_5
        refine pk_ob1 (w_f_X6_addStep_1 h_12 20038) (fun h_13 k_6 => ?_)
        replace k_6 := Fr_trans k_5 (Fr_mono fs_X6_addStep_1__read_1 k_6)
        exact pk_mono (w_f_X2_readOne_1_121 kR_X2_readLevel hk_kR_X2_readLevel kR_X2_readAsk hk_kR_X2_readAsk kR_X2_readOne hk_kR_X2_readOne h_13) (fun _ k => Fr_trans k_6 k)
    · refine pk_ob1 (w_f_X2_fail h 1) (fun h_9 k_7 => ?_)
      replace k_7 := Fr_trans (Fr_refl _ h) (Fr_mono fs_X2_fail__read_1 k_7)
      exact pk_mono (w_f_X2_readOne_1_121 kR_X2_readLevel hk_kR_X2_readLevel kR_X2_readAsk hk_kR_X2_readAsk kR_X2_readOne hk_kR_X2_readOne h_9) (fun _ k => Fr_trans k_7 k)
theorem fs_X2_readValue_1__read_1 : ∀ x ∈ S_X2_readValue_1, x ∈ S_read_1 := by decide
theorem fs_X2_readName_1__read_1 : ∀ x ∈ S_X2_readName_1, x ∈ S_read_1 := by decide
theorem w_f_X2_readOne_1_b (kR_X2_readLevel : HS → Int32 → Int32 → Option HS) (hk_kR_X2_readLevel : ∀ (h : HS) (x0 : Int32) (x1 : Int32), pk (kR_X2_readLevel h x0 x1) (fun a => Fr S_read_1 h a)) (kR_X2_readAsk : HS → Int32 → Option HS) (hk_kR_X2_readAsk : ∀ (h : HS) (x0 : Int32), pk (kR_X2_readAsk h x0) (fun a => Fr S_read_1 h a)) (kR_X2_readOne : HS → Int32 → Option HS) (hk_kR_X2_readOne : ∀ (h : HS) (x0 : Int32), pk (kR_X2_readOne h x0) (fun a => Fr S_read_1 h a)) (h : HS) (p1 : Int32) : pk (f_X2_readOne_1_b kR_X2_readLevel kR_X2_readAsk kR_X2_readOne h p1) (fun a => Fr S_read_1 h a) := by
  unfold f_X2_readOne_1_b
  refine pk_ob2 (w_f_X7_kind h) (fun r_1 h_1 k_1 => ?_)
  replace k_1 := Fr_trans (Fr_refl _ h) (Fr_mono fs_X7_kind__read_1 k_1)
  refine pk_if (fun _ => ?_) (fun _ => ?_)
  · refine pk_ob1 (w_f_X2_readValue_1 h_1) (fun h_6 k_2 => ?_)
    replace k_2 := Fr_trans k_1 (Fr_mono fs_X2_readValue_1__read_1 k_2)
    exact pk_mono (w_f_X2_readOne_1_121 kR_X2_readLevel hk_kR_X2_readLevel kR_X2_readAsk hk_kR_X2_readAsk kR_X2_readOne hk_kR_X2_readOne h_6) (fun _ k => Fr_trans k_2 k)
  · refine pk_if (fun _ => ?_) (fun _ => ?_)
    · exact pk_mono (w_f_X2_readOne_1_44 kR_X2_readLevel hk_kR_X2_readLevel kR_X2_readAsk hk_kR_X2_readAsk kR_X2_readOne hk_kR_X2_readOne h_1 p1 r_1) (fun _ k => Fr_trans k_1 k)
    · refine pk_if (fun _ => ?_) (fun _ => ?_)
      · exact pk_mono (w_f_X2_readOne_1_44 kR_X2_readLevel hk_kR_X2_readLevel kR_X2_readAsk hk_kR_X2_readAsk kR_X2_readOne hk_kR_X2_readOne h_1 p1 r_1) (fun _ k => Fr_trans k_1 k)
      · refine pk_ob1 (w_f_X2_readName_1 h_1) (fun h_5 k_3 => ?_)
        replace k_3 := Fr_trans k_1 (Fr_mono fs_X2_readName_1__read_1 k_3)
        exact pk_mono (w_f_X2_readOne_1_121 kR_X2_readLevel hk_kR_X2_readLevel kR_X2_readAsk hk_kR_X2_readAsk kR_X2_readOne hk_kR_X2_readOne h_5) (fun _ k => Fr_trans k_3 k)
theorem w_G_read_1 : ∀ (n t : Nat) (h : HS) (p1 p2 : Int32), pk (G_read_1 n t h p1 p2) (fun a => Fr S_read_1 h a) := by
  intro n
  induction n with
  | zero => intro t h p1 p2; exact (by simp [G_read_1]; exact pk_none)
  | succ n ih =>
    intro t h p1 p2
    match t with
    | 0 => exact w_f_X2_readLevel_1_b (fun h p1 p2 => G_read_1 n 0 h p1 p2) (fun h p1 p2 => ih 0 h p1 p2) (fun h p1 => G_read_1 n 1 h p1 0) (fun h p1 => ih 1 h p1 0) (fun h p1 => G_read_1 n 2 h p1 0) (fun h p1 => ih 2 h p1 0) h p1 p2
    | 1 => exact w_f_X2_readAsk_1_b (fun h p1 p2 => G_read_1 n 0 h p1 p2) (fun h p1 p2 => ih 0 h p1 p2) (fun h p1 => G_read_1 n 1 h p1 0) (fun h p1 => ih 1 h p1 0) (fun h p1 => G_read_1 n 2 h p1 0) (fun h p1 => ih 2 h p1 0) h p1
    | t + 2 => exact w_f_X2_readOne_1_b (fun h p1 p2 => G_read_1 n 0 h p1 p2) (fun h p1 p2 => ih 0 h p1 p2) (fun h p1 => G_read_1 n 1 h p1 0) (fun h p1 => ih 1 h p1 0) (fun h p1 => G_read_1 n 2 h p1 0) (fun h p1 => ih 2 h p1 0) h p1
def S_X2_readClause_1_158 : CL := []
theorem w_f_X2_readClause_1_158 (h : HS) : pk (f_X2_readClause_1_158 h) (fun a => Fr S_X2_readClause_1_158 h a) := by
  unfold f_X2_readClause_1_158
  exact pk_some (Fr_refl _ h)
def S_X2_readClause_1_25 : CL := [(0, 5, 0), (0, 5, 1)]
theorem fs_X2_fail__X2_readClause_1_25 : ∀ x ∈ S_X2_fail, x ∈ S_X2_readClause_1_25 := by decide
theorem fs_X2_readClause_1_158__X2_readClause_1_25 : ∀ x ∈ S_X2_readClause_1_158, x ∈ S_X2_readClause_1_25 := by decide
theorem w_f_X2_readClause_1_25 (h : HS) : pk (f_X2_readClause_1_25 h) (fun a => Fr S_X2_readClause_1_25 h a) := by
  unfold f_X2_readClause_1_25
  refine pk_ob1 (w_f_X2_fail h 1) (fun h_15 k_1 => ?_)
  replace k_1 := Fr_trans (Fr_refl _ h) (Fr_mono fs_X2_fail__X2_readClause_1_25 k_1)
  exact pk_mono (w_f_X2_readClause_1_158 h_15) (fun _ k => Fr_trans k_1 (Fr_mono fs_X2_readClause_1_158__X2_readClause_1_25 k))
def S_X2_readClause_1_141 : CL := [(0, 4, 4), (0, 5, 0), (0, 5, 1), (0, 10, 1)]
theorem fm_X2_readClause_1_141_0_10_1 : (0, 10, 1) ∈ S_X2_readClause_1_141 := by decide
theorem fs_X2_expect__X2_readClause_1_141 : ∀ x ∈ S_X2_expect, x ∈ S_X2_readClause_1_141 := by decide
theorem fs_X2_readClause_1_158__X2_readClause_1_141 : ∀ x ∈ S_X2_readClause_1_158, x ∈ S_X2_readClause_1_141 := by decide
theorem w_f_X2_readClause_1_141 (h : HS) : pk (f_X2_readClause_1_141 h) (fun a => Fr S_X2_readClause_1_141 h a) := by
  unfold f_X2_readClause_1_141
  refine pk_ob1 (w_f_X2_expect h 15) (fun h_16 k_1 => ?_)
  replace k_1 := Fr_trans (Fr_refl _ h) (Fr_mono fs_X2_expect__X2_readClause_1_141 k_1)
  exact pk_mono (w_f_X2_readClause_1_158 (sI h_16 10 1 ((eI h_16 10 1) + 1))) (fun _ k => Fr_trans (Fr_sI fm_X2_readClause_1_141_0_10_1 k_1) (Fr_mono fs_X2_readClause_1_158__X2_readClause_1_141 k))
def S_X2_readClause_1_119 : CL := [(0, 4, 4), (0, 5, 0), (0, 5, 1), (0, 10, 1), (0, 10, 5), (1, 10, 2), (1, 10, 4)]
theorem fs_read_1__X2_readClause_1_119 : ∀ x ∈ S_read_1, x ∈ S_X2_readClause_1_119 := by decide
theorem fs_X6_closeLaw_1__X2_readClause_1_119 : ∀ x ∈ S_X6_closeLaw_1, x ∈ S_X2_readClause_1_119 := by decide
theorem fs_X2_readClause_1_141__X2_readClause_1_119 : ∀ x ∈ S_X2_readClause_1_141, x ∈ S_X2_readClause_1_119 := by decide
theorem w_f_X2_readClause_1_119 (h : HS) (y0 : Int32) : pk (f_X2_readClause_1_119 h y0) (fun a => Fr S_X2_readClause_1_119 h a) := by
  unfold f_X2_readClause_1_119
  refine pk_ob1 (w_G_read_1 200 0 h y0 0) (fun h_17 k_1 => ?_)
  replace k_1 := Fr_trans (Fr_refl _ h) (Fr_mono fs_read_1__X2_readClause_1_119 k_1)
  refine pk_ob1 (w_f_X6_closeLaw_1 h_17 (eI h_17 5 2)) (fun h_18 k_2 => ?_)
  replace k_2 := Fr_trans k_1 (Fr_mono fs_X6_closeLaw_1__X2_readClause_1_119 k_2)
  exact pk_mono (w_f_X2_readClause_1_141 h_18) (fun _ k => Fr_trans k_2 (Fr_mono fs_X2_readClause_1_141__X2_readClause_1_119 k))
def S_X2_readClause_1 : CL := [(0, 4, 4), (0, 5, 0), (0, 5, 1), (0, 5, 2), (0, 10, 1), (0, 10, 5), (1, 10, 0), (1, 10, 2), (1, 10, 3), (1, 10, 4)]
theorem fm_X2_readClause_1_0_5_2 : (0, 5, 2) ∈ S_X2_readClause_1 := by decide
theorem fs_X7_kind__X2_readClause_1 : ∀ x ∈ S_X7_kind, x ∈ S_X2_readClause_1 := by decide
theorem fs_X2_readClause_1_25__X2_readClause_1 : ∀ x ∈ S_X2_readClause_1_25, x ∈ S_X2_readClause_1 := by decide
theorem fs_X6_hasLaw_1__X2_readClause_1 : ∀ x ∈ S_X6_hasLaw_1, x ∈ S_X2_readClause_1 := by decide
theorem fs_X6_setClause_1__X2_readClause_1 : ∀ x ∈ S_X6_setClause_1, x ∈ S_X2_readClause_1 := by decide
theorem fs_X7_advance__X2_readClause_1 : ∀ x ∈ S_X7_advance, x ∈ S_X2_readClause_1 := by decide
theorem fs_X2_readDeed_1__X2_readClause_1 : ∀ x ∈ S_X2_readDeed_1, x ∈ S_X2_readClause_1 := by decide
theorem fs_X2_readClause_1_141__X2_readClause_1 : ∀ x ∈ S_X2_readClause_1_141, x ∈ S_X2_readClause_1 := by decide
theorem fs_X6_beginLaw_1__X2_readClause_1 : ∀ x ∈ S_X6_beginLaw_1, x ∈ S_X2_readClause_1 := by decide
theorem fs_X2_readClause_1_119__X2_readClause_1 : ∀ x ∈ S_X2_readClause_1_119, x ∈ S_X2_readClause_1 := by decide
theorem fs_X2_fail__X2_readClause_1 : ∀ x ∈ S_X2_fail, x ∈ S_X2_readClause_1 := by decide
theorem fs_X2_readClause_1_158__X2_readClause_1 : ∀ x ∈ S_X2_readClause_1_158, x ∈ S_X2_readClause_1 := by decide
theorem w_f_X2_readClause_1 (h : HS) : pk (f_X2_readClause_1 h) (fun a => Fr S_X2_readClause_1 h a) := by
  unfold f_X2_readClause_1
  refine pk_ob2 (w_f_X7_kind h) (fun r_1 h_1 k_1 => ?_)
  replace k_1 := Fr_trans (Fr_refl _ h) (Fr_mono fs_X7_kind__X2_readClause_1 k_1)
  refine pk_if (fun _ => ?_) (fun _ => ?_)
  · exact pk_mono (w_f_X2_readClause_1_25 (sI h_1 5 2 (r_1 - 16))) (fun _ k => Fr_trans (Fr_sI fm_X2_readClause_1_0_5_2 k_1) (Fr_mono fs_X2_readClause_1_25__X2_readClause_1 k))
  · refine pk_if (fun _ => ?_) (fun _ => ?_)
    · refine pk_ob2 (w_f_X6_hasLaw_1 (sI h_1 5 2 (r_1 - 16)) (r_1 - 16)) (fun r_4 h_4 k_2 => ?_)
      replace k_2 := Fr_trans (Fr_sI fm_X2_readClause_1_0_5_2 k_1) (Fr_mono fs_X6_hasLaw_1__X2_readClause_1 k_2)
      refine pk_if (fun _ => ?_) (fun _ => ?_)
      · refine pk_if (fun _ => ?_) (fun _ => ?_)
        · refine pk_ob1 (w_f_X6_setClause_1 h_4 (eI h_4 10 1) 0 r_1) (fun h_7 k_3 => ?_)
          replace k_3 := Fr_trans k_2 (Fr_mono fs_X6_setClause_1__X2_readClause_1 k_3)
          refine pk_ob1 (w_f_X7_advance h_7) (fun h_8 k_4 => ?_)
          replace k_4 := Fr_trans k_3 (Fr_mono fs_X7_advance__X2_readClause_1 k_4)
          refine pk_if (fun _ => ?_) (fun _ => ?_)
          · refine pk_ob1 (w_f_X2_readDeed_1 h_8 r_1) (fun h_10 k_5 => ?_)
            replace k_5 := Fr_trans k_4 (Fr_mono fs_X2_readDeed_1__X2_readClause_1 k_5)
            exact pk_mono (w_f_X2_readClause_1_141 h_10) (fun _ k => Fr_trans k_5 (Fr_mono fs_X2_readClause_1_141__X2_readClause_1 k))
          · refine pk_ob1 (w_f_X6_beginLaw_1 h_8 (eI h_8 5 2)) (fun h_11 k_6 => ?_)
            replace k_6 := Fr_trans k_4 (Fr_mono fs_X6_beginLaw_1__X2_readClause_1 k_6)
            refine pk_if (fun _ => ?_) (fun _ => ?_)
            · exact pk_mono (w_f_X2_readClause_1_119 h_11 0) (fun _ k => Fr_trans k_6 (Fr_mono fs_X2_readClause_1_119__X2_readClause_1 k))
            · exact pk_mono (w_f_X2_readClause_1_119 h_11 3) (fun _ k => Fr_trans k_6 (Fr_mono fs_X2_readClause_1_119__X2_readClause_1 k))
        · refine pk_ob1 (w_f_X2_fail h_4 6) (fun h_13 k_7 => ?_)
          replace k_7 := Fr_trans k_2 (Fr_mono fs_X2_fail__X2_readClause_1 k_7)
          exact pk_mono (w_f_X2_readClause_1_158 h_13) (fun _ k => Fr_trans k_7 (Fr_mono fs_X2_readClause_1_158__X2_readClause_1 k))
      · refine pk_ob1 (w_f_X2_fail h_4 4) (fun h_14 k_8 => ?_)
        replace k_8 := Fr_trans k_2 (Fr_mono fs_X2_fail__X2_readClause_1 k_8)
        exact pk_mono (w_f_X2_readClause_1_158 h_14) (fun _ k => Fr_trans k_8 (Fr_mono fs_X2_readClause_1_158__X2_readClause_1 k))
    · exact pk_mono (w_f_X2_readClause_1_25 (sI h_1 5 2 (r_1 - 16))) (fun _ k => Fr_trans (Fr_sI fm_X2_readClause_1_0_5_2 k_1) (Fr_mono fs_X2_readClause_1_25__X2_readClause_1 k))
def S_X2_parse_1_48 : CL := []
theorem w_f_X2_parse_1_48 (h : HS) : pk (f_X2_parse_1_48 h) (fun a => Fr S_X2_parse_1_48 h a) := by
  unfold f_X2_parse_1_48
  exact pk_some (Fr_refl _ h)
def S_X2_parse_1_16 : CL := [(0, 4, 4), (0, 5, 0), (0, 5, 1), (0, 5, 2), (0, 10, 1), (0, 10, 5), (1, 10, 0), (1, 10, 2), (1, 10, 3), (1, 10, 4)]
theorem fs_X2_parse_1_48__X2_parse_1_16 : ∀ x ∈ S_X2_parse_1_48, x ∈ S_X2_parse_1_16 := by decide
theorem fs_X7_kind__X2_parse_1_16 : ∀ x ∈ S_X7_kind, x ∈ S_X2_parse_1_16 := by decide
theorem fs_X2_readClause_1__X2_parse_1_16 : ∀ x ∈ S_X2_readClause_1, x ∈ S_X2_parse_1_16 := by decide
theorem w_f_X2_parse_1_16  : ∀ (n : Nat) (h : HS) (x3 : Int32), pk (f_X2_parse_1_16  n h x3) (fun a => Fr S_X2_parse_1_16 h a) := by
  intro n
  induction n with
  | zero => intro h x3; exact pk_none
  | succ n ih =>
    intro h x3
    rw [f_X2_parse_1_16_s]
    refine pk_if (fun _ => ?_) (fun _ => ?_)
    · exact pk_mono (w_f_X2_parse_1_48 h) (fun _ k => Fr_trans (Fr_refl _ h) (Fr_mono fs_X2_parse_1_48__X2_parse_1_16 k))
    · refine pk_if (fun _ => ?_) (fun _ => ?_)
      · refine pk_ob2 (w_f_X7_kind h) (fun r_4 h_4 k_1 => ?_)
        replace k_1 := Fr_trans (Fr_refl _ h) (Fr_mono fs_X7_kind__X2_parse_1_16 k_1)
        refine pk_if (fun _ => ?_) (fun _ => ?_)
        · exact pk_mono (w_f_X2_parse_1_48 h_4) (fun _ k => Fr_trans k_1 (Fr_mono fs_X2_parse_1_48__X2_parse_1_16 k))
        · refine pk_ob1 (w_f_X2_readClause_1 h_4) (fun h_6 k_2 => ?_)
          replace k_2 := Fr_trans k_1 (Fr_mono fs_X2_readClause_1__X2_parse_1_16 k_2)
          exact pk_mono (ih h_6 (x3 + 1)) (fun _ k => Fr_trans k_2 k)
      · exact pk_mono (w_f_X2_parse_1_48 h) (fun _ k => Fr_trans (Fr_refl _ h) (Fr_mono fs_X2_parse_1_48__X2_parse_1_16 k))
def S_X2_parse_1 : CL := [(0, 4, 4), (0, 5, 0), (0, 5, 1), (0, 5, 2), (0, 10, 1), (0, 10, 5), (1, 10, 0), (1, 10, 2), (1, 10, 3), (1, 10, 4)]
theorem fm_X2_parse_1_0_5_1 : (0, 5, 1) ∈ S_X2_parse_1 := by decide
theorem fm_X2_parse_1_0_5_0 : (0, 5, 0) ∈ S_X2_parse_1 := by decide
theorem fs_X6_clear_1__X2_parse_1 : ∀ x ∈ S_X6_clear_1, x ∈ S_X2_parse_1 := by decide
theorem fs_X2_parse_1_16__X2_parse_1 : ∀ x ∈ S_X2_parse_1_16, x ∈ S_X2_parse_1 := by decide
theorem w_f_X2_parse_1 (h : HS) : pk (f_X2_parse_1 h) (fun a => Fr S_X2_parse_1 h a) := by
  unfold f_X2_parse_1
  refine pk_ob1 (w_f_X6_clear_1 (sI (sI h 5 0 0) 5 1 (-1))) (fun h_1 k_1 => ?_)
  replace k_1 := Fr_trans (Fr_sI fm_X2_parse_1_0_5_1 (Fr_sI fm_X2_parse_1_0_5_0 (Fr_refl _ h))) (Fr_mono fs_X6_clear_1__X2_parse_1 k_1)
  exact pk_mono (w_f_X2_parse_1_16 8589934592 h_1 0) (fun _ k => Fr_trans k_1 (Fr_mono fs_X2_parse_1_16__X2_parse_1 k))
def S_X2_readValue_2 : CL := [(0, 4, 4), (0, 5, 0), (0, 5, 1), (0, 11, 5), (1, 11, 2)]
theorem fs_X7_value__X2_readValue_2 : ∀ x ∈ S_X7_value, x ∈ S_X2_readValue_2 := by decide
theorem fs_X6_addStep_2__X2_readValue_2 : ∀ x ∈ S_X6_addStep_2, x ∈ S_X2_readValue_2 := by decide
theorem fs_X7_advance__X2_readValue_2 : ∀ x ∈ S_X7_advance, x ∈ S_X2_readValue_2 := by decide
theorem fs_X2_fail__X2_readValue_2 : ∀ x ∈ S_X2_fail, x ∈ S_X2_readValue_2 := by decide
theorem w_f_X2_readValue_2 (h : HS) : pk (f_X2_readValue_2 h) (fun a => Fr S_X2_readValue_2 h a) := by
  unfold f_X2_readValue_2
  refine pk_ob2 (w_f_X7_value h) (fun r_1 h_1 k_1 => ?_)
  replace k_1 := Fr_trans (Fr_refl _ h) (Fr_mono fs_X7_value__X2_readValue_2 k_1)
  refine pk_if (fun _ => ?_) (fun _ => ?_)
  · refine pk_ob2 (w_f_X7_value h_1) (fun r_3 h_3 k_2 => ?_)
    replace k_2 := Fr_trans k_1 (Fr_mono fs_X7_value__X2_readValue_2 k_2)
    refine pk_ob1 (w_f_X6_addStep_2 h_3 r_3) (fun h_4 k_3 => ?_)
    replace k_3 := Fr_trans k_2 (Fr_mono fs_X6_addStep_2__X2_readValue_2 k_3)
    refine pk_ob1 (w_f_X7_advance h_4) (fun h_5 k_4 => ?_)
    replace k_4 := Fr_trans k_3 (Fr_mono fs_X7_advance__X2_readValue_2 k_4)
    exact pk_some k_4
  · refine pk_ob1 (w_f_X2_fail h_1 2) (fun h_6 k_5 => ?_)
    replace k_5 := Fr_trans k_1 (Fr_mono fs_X2_fail__X2_readValue_2 k_5)
    exact pk_some k_5
def S_X2_readName_2_31 : CL := [(0, 4, 4), (0, 11, 5), (1, 11, 2)]
theorem fs_X7_kind__X2_readName_2_31 : ∀ x ∈ S_X7_kind, x ∈ S_X2_readName_2_31 := by decide
theorem fs_X6_addStep_2__X2_readName_2_31 : ∀ x ∈ S_X6_addStep_2, x ∈ S_X2_readName_2_31 := by decide
theorem fs_X7_advance__X2_readName_2_31 : ∀ x ∈ S_X7_advance, x ∈ S_X2_readName_2_31 := by decide
theorem w_f_X2_readName_2_31 (h : HS) : pk (f_X2_readName_2_31 h) (fun a => Fr S_X2_readName_2_31 h a) := by
  unfold f_X2_readName_2_31
  refine pk_ob2 (w_f_X7_kind h) (fun r_6 h_6 k_1 => ?_)
  replace k_1 := Fr_trans (Fr_refl _ h) (Fr_mono fs_X7_kind__X2_readName_2_31 k_1)
  refine pk_ob1 (w_f_X6_addStep_2 h_6 ((10000 + r_6) - 29)) (fun h_7 k_2 => ?_)
  replace k_2 := Fr_trans k_1 (Fr_mono fs_X6_addStep_2__X2_readName_2_31 k_2)
  refine pk_ob1 (w_f_X7_advance h_7) (fun h_8 k_3 => ?_)
  replace k_3 := Fr_trans k_2 (Fr_mono fs_X7_advance__X2_readName_2_31 k_3)
  exact pk_some k_3
def S_X2_readName_2 : CL := [(0, 4, 4), (0, 5, 0), (0, 5, 1), (0, 11, 5), (1, 11, 2)]
theorem fs_X7_kind__X2_readName_2 : ∀ x ∈ S_X7_kind, x ∈ S_X2_readName_2 := by decide
theorem fs_X2_readName_2_31__X2_readName_2 : ∀ x ∈ S_X2_readName_2_31, x ∈ S_X2_readName_2 := by decide
theorem fs_X2_fail__X2_readName_2 : ∀ x ∈ S_X2_fail, x ∈ S_X2_readName_2 := by decide
theorem w_f_X2_readName_2 (h : HS) : pk (f_X2_readName_2 h) (fun a => Fr S_X2_readName_2 h a) := by
  unfold f_X2_readName_2
  refine pk_ob2 (w_f_X7_kind h) (fun r_1 h_1 k_1 => ?_)
  replace k_1 := Fr_trans (Fr_refl _ h) (Fr_mono fs_X7_kind__X2_readName_2 k_1)
  refine pk_if (fun _ => ?_) (fun _ => ?_)
  · exact pk_mono (w_f_X2_readName_2_31 h_1) (fun _ k => Fr_trans k_1 (Fr_mono fs_X2_readName_2_31__X2_readName_2 k))
  · refine pk_if (fun _ => ?_) (fun _ => ?_)
    · exact pk_mono (w_f_X2_readName_2_31 h_1) (fun _ k => Fr_trans k_1 (Fr_mono fs_X2_readName_2_31__X2_readName_2 k))
    · refine pk_if (fun _ => ?_) (fun _ => ?_)
      · exact pk_mono (w_f_X2_readName_2_31 h_1) (fun _ k => Fr_trans k_1 (Fr_mono fs_X2_readName_2_31__X2_readName_2 k))
      · refine pk_ob1 (w_f_X2_fail h_1 5) (fun h_5 k_2 => ?_)
        replace k_2 := Fr_trans k_1 (Fr_mono fs_X2_fail__X2_readName_2 k_2)
        exact pk_some k_2
def S_X2_readNumber_2_69 : CL := []
theorem w_f_X2_readNumber_2_69 (h : HS) : pk (f_X2_readNumber_2_69 h) (fun a => Fr S_X2_readNumber_2_69 h a) := by
  unfold f_X2_readNumber_2_69
  exact pk_some (Fr_refl _ h)
def S_X2_readNumber_2_43 : CL := [(0, 5, 0), (0, 5, 1)]
theorem fs_X2_fail__X2_readNumber_2_43 : ∀ x ∈ S_X2_fail, x ∈ S_X2_readNumber_2_43 := by decide
theorem fs_X2_readNumber_2_69__X2_readNumber_2_43 : ∀ x ∈ S_X2_readNumber_2_69, x ∈ S_X2_readNumber_2_43 := by decide
theorem w_f_X2_readNumber_2_43 (h : HS) : pk (f_X2_readNumber_2_43 h) (fun a => Fr S_X2_readNumber_2_43 h a) := by
  unfold f_X2_readNumber_2_43
  refine pk_ob1 (w_f_X2_fail h 2) (fun h_12 k_1 => ?_)
  replace k_1 := Fr_trans (Fr_refl _ h) (Fr_mono fs_X2_fail__X2_readNumber_2_43 k_1)
  exact pk_mono (w_f_X2_readNumber_2_69 h_12) (fun _ k => Fr_trans k_1 (Fr_mono fs_X2_readNumber_2_69__X2_readNumber_2_43 k))
def S_X2_readNumber_2 : CL := [(0, 4, 4), (0, 5, 0), (0, 5, 1), (1, 11, 0)]
theorem fs_X7_kind__X2_readNumber_2 : ∀ x ∈ S_X7_kind, x ∈ S_X2_readNumber_2 := by decide
theorem fs_X7_value__X2_readNumber_2 : ∀ x ∈ S_X7_value, x ∈ S_X2_readNumber_2 := by decide
theorem fs_X2_readNumber_2_43__X2_readNumber_2 : ∀ x ∈ S_X2_readNumber_2_43, x ∈ S_X2_readNumber_2 := by decide
theorem fs_X6_setClause_2__X2_readNumber_2 : ∀ x ∈ S_X6_setClause_2, x ∈ S_X2_readNumber_2 := by decide
theorem fs_X7_advance__X2_readNumber_2 : ∀ x ∈ S_X7_advance, x ∈ S_X2_readNumber_2 := by decide
theorem fs_X2_readNumber_2_69__X2_readNumber_2 : ∀ x ∈ S_X2_readNumber_2_69, x ∈ S_X2_readNumber_2 := by decide
theorem fs_X2_fail__X2_readNumber_2 : ∀ x ∈ S_X2_fail, x ∈ S_X2_readNumber_2 := by decide
theorem w_f_X2_readNumber_2 (h : HS) (p1 : Int32) (p2 : Int32) (p3 : Int32) : pk (f_X2_readNumber_2 h p1 p2 p3) (fun a => Fr S_X2_readNumber_2 h a) := by
  unfold f_X2_readNumber_2
  refine pk_if (fun _ => ?_) (fun _ => ?_)
  · refine pk_ob2 (w_f_X7_kind h) (fun r_2 h_2 k_1 => ?_)
    replace k_1 := Fr_trans (Fr_refl _ h) (Fr_mono fs_X7_kind__X2_readNumber_2 k_1)
    refine pk_if (fun _ => ?_) (fun _ => ?_)
    · refine pk_ob2 (w_f_X7_value h_2) (fun r_4 h_4 k_2 => ?_)
      replace k_2 := Fr_trans k_1 (Fr_mono fs_X7_value__X2_readNumber_2 k_2)
      refine pk_if (fun _ => ?_) (fun _ => ?_)
      · exact pk_mono (w_f_X2_readNumber_2_43 h_4) (fun _ k => Fr_trans k_2 (Fr_mono fs_X2_readNumber_2_43__X2_readNumber_2 k))
      · refine pk_ob2 (w_f_X7_value h_4) (fun r_6 h_6 k_3 => ?_)
        replace k_3 := Fr_trans k_2 (Fr_mono fs_X7_value__X2_readNumber_2 k_3)
        refine pk_if (fun _ => ?_) (fun _ => ?_)
        · refine pk_ob2 (w_f_X7_value h_6) (fun r_8 h_8 k_4 => ?_)
          replace k_4 := Fr_trans k_3 (Fr_mono fs_X7_value__X2_readNumber_2 k_4)
          refine pk_ob1 (w_f_X6_setClause_2 h_8 (eI h_6 11 1) p1 r_8) (fun h_9 k_5 => ?_)
          replace k_5 := Fr_trans k_4 (Fr_mono fs_X6_setClause_2__X2_readNumber_2 k_5)
          refine pk_ob1 (w_f_X7_advance h_9) (fun h_10 k_6 => ?_)
          replace k_6 := Fr_trans k_5 (Fr_mono fs_X7_advance__X2_readNumber_2 k_6)
          exact pk_mono (w_f_X2_readNumber_2_69 h_10) (fun _ k => Fr_trans k_6 (Fr_mono fs_X2_readNumber_2_69__X2_readNumber_2 k))
        · exact pk_mono (w_f_X2_readNumber_2_43 h_6) (fun _ k => Fr_trans k_3 (Fr_mono fs_X2_readNumber_2_43__X2_readNumber_2 k))
    · refine pk_ob1 (w_f_X2_fail h_2 1) (fun h_11 k_7 => ?_)
      replace k_7 := Fr_trans k_1 (Fr_mono fs_X2_fail__X2_readNumber_2 k_7)
      exact pk_mono (w_f_X2_readNumber_2_69 h_11) (fun _ k => Fr_trans k_7 (Fr_mono fs_X2_readNumber_2_69__X2_readNumber_2 k))
  · exact pk_some (Fr_refl _ h)
def S_X2_readDeed_2_90 : CL := []
theorem w_f_X2_readDeed_2_90 (h : HS) : pk (f_X2_readDeed_2_90 h) (fun a => Fr S_X2_readDeed_2_90 h a) := by
  unfold f_X2_readDeed_2_90
  exact pk_some (Fr_refl _ h)
def S_X2_readDeed_2 : CL := [(0, 4, 4), (0, 5, 0), (0, 5, 1), (1, 11, 0)]
theorem fs_X2_readNumber_2__X2_readDeed_2 : ∀ x ∈ S_X2_readNumber_2, x ∈ S_X2_readDeed_2 := by decide
theorem fs_X2_expect__X2_readDeed_2 : ∀ x ∈ S_X2_expect, x ∈ S_X2_readDeed_2 := by decide
theorem fs_X2_readDeed_2_90__X2_readDeed_2 : ∀ x ∈ S_X2_readDeed_2_90, x ∈ S_X2_readDeed_2 := by decide
theorem w_f_X2_readDeed_2 (h : HS) (p1 : Int32) : pk (f_X2_readDeed_2 h p1) (fun a => Fr S_X2_readDeed_2 h a) := by
  unfold f_X2_readDeed_2
  refine pk_if (fun _ => ?_) (fun _ => ?_)
  · refine pk_ob1 (w_f_X2_readNumber_2 h 1 1 99) (fun h_11 k_1 => ?_)
    replace k_1 := Fr_trans (Fr_refl _ h) (Fr_mono fs_X2_readNumber_2__X2_readDeed_2 k_1)
    exact pk_some k_1
  · refine pk_ob1 (w_f_X2_readNumber_2 h 1 0 9) (fun h_2 k_2 => ?_)
    replace k_2 := Fr_trans (Fr_refl _ h) (Fr_mono fs_X2_readNumber_2__X2_readDeed_2 k_2)
    refine pk_if (fun _ => ?_) (fun _ => ?_)
    · refine pk_ob1 (w_f_X2_expect h_2 24) (fun h_7 k_3 => ?_)
      replace k_3 := Fr_trans k_2 (Fr_mono fs_X2_expect__X2_readDeed_2 k_3)
      refine pk_ob1 (w_f_X2_readNumber_2 h_7 2 0 5) (fun h_8 k_4 => ?_)
      replace k_4 := Fr_trans k_3 (Fr_mono fs_X2_readNumber_2__X2_readDeed_2 k_4)
      refine pk_ob1 (w_f_X2_expect h_8 33) (fun h_9 k_5 => ?_)
      replace k_5 := Fr_trans k_4 (Fr_mono fs_X2_expect__X2_readDeed_2 k_5)
      refine pk_ob1 (w_f_X2_readNumber_2 h_9 3 0 2) (fun h_10 k_6 => ?_)
      replace k_6 := Fr_trans k_5 (Fr_mono fs_X2_readNumber_2__X2_readDeed_2 k_6)
      exact pk_mono (w_f_X2_readDeed_2_90 h_10) (fun _ k => Fr_trans k_6 (Fr_mono fs_X2_readDeed_2_90__X2_readDeed_2 k))
    · refine pk_if (fun _ => ?_) (fun _ => ?_)
      · refine pk_ob1 (w_f_X2_expect h_2 25) (fun h_5 k_7 => ?_)
        replace k_7 := Fr_trans k_2 (Fr_mono fs_X2_expect__X2_readDeed_2 k_7)
        refine pk_ob1 (w_f_X2_readNumber_2 h_5 2 0 3) (fun h_6 k_8 => ?_)
        replace k_8 := Fr_trans k_7 (Fr_mono fs_X2_readNumber_2__X2_readDeed_2 k_8)
        exact pk_mono (w_f_X2_readDeed_2_90 h_6) (fun _ k => Fr_trans k_8 (Fr_mono fs_X2_readDeed_2_90__X2_readDeed_2 k))
      · exact pk_mono (w_f_X2_readDeed_2_90 h_2) (fun _ k => Fr_trans k_2 (Fr_mono fs_X2_readDeed_2_90__X2_readDeed_2 k))
def S_read_2 : CL := [(0, 4, 4), (0, 5, 0), (0, 5, 1), (0, 11, 5), (1, 11, 2)]
theorem w_f_X2_readLevel_2_105 (kR_X2_readLevel : HS → Int32 → Int32 → Option HS) (hk_kR_X2_readLevel : ∀ (h : HS) (x0 : Int32) (x1 : Int32), pk (kR_X2_readLevel h x0 x1) (fun a => Fr S_read_2 h a)) (kR_X2_readAsk : HS → Int32 → Option HS) (hk_kR_X2_readAsk : ∀ (h : HS) (x0 : Int32), pk (kR_X2_readAsk h x0) (fun a => Fr S_read_2 h a)) (kR_X2_readOne : HS → Int32 → Option HS) (hk_kR_X2_readOne : ∀ (h : HS) (x0 : Int32), pk (kR_X2_readOne h x0) (fun a => Fr S_read_2 h a)) (h : HS) : pk (f_X2_readLevel_2_105 kR_X2_readLevel kR_X2_readAsk kR_X2_readOne h) (fun a => Fr S_read_2 h a) := by
  unfold f_X2_readLevel_2_105
  exact pk_some (Fr_refl _ h)
theorem fs_X7_kind__read_2 : ∀ x ∈ S_X7_kind, x ∈ S_read_2 := by decide
theorem fs_X7_advance__read_2 : ∀ x ∈ S_X7_advance, x ∈ S_read_2 := by decide
theorem fs_X6_addStep_2__read_2 : ∀ x ∈ S_X6_addStep_2, x ∈ S_read_2 := by decide
theorem w_f_X2_readLevel_2_42 (kR_X2_readLevel : HS → Int32 → Int32 → Option HS) (hk_kR_X2_readLevel : ∀ (h : HS) (x0 : Int32) (x1 : Int32), pk (kR_X2_readLevel h x0 x1) (fun a => Fr S_read_2 h a)) (kR_X2_readAsk : HS → Int32 → Option HS) (hk_kR_X2_readAsk : ∀ (h : HS) (x0 : Int32), pk (kR_X2_readAsk h x0) (fun a => Fr S_read_2 h a)) (kR_X2_readOne : HS → Int32 → Option HS) (hk_kR_X2_readOne : ∀ (h : HS) (x0 : Int32), pk (kR_X2_readOne h x0) (fun a => Fr S_read_2 h a)) : ∀ (n : Nat) (h : HS) (x3 : Int32) (x4 : Int32) (x5 : Int32), pk (f_X2_readLevel_2_42 kR_X2_readLevel kR_X2_readAsk kR_X2_readOne n h x3 x4 x5) (fun a => Fr S_read_2 h a) := by
  intro n
  induction n with
  | zero => intro h x3 x4 x5; exact pk_none
  | succ n ih =>
    intro h x3 x4 x5
    rw [f_X2_readLevel_2_42_s]
    refine pk_if (fun _ => ?_) (fun _ => ?_)
    · exact pk_mono (w_f_X2_readLevel_2_105 kR_X2_readLevel hk_kR_X2_readLevel kR_X2_readAsk hk_kR_X2_readAsk kR_X2_readOne hk_kR_X2_readOne h) (fun _ k => Fr_trans (Fr_refl _ h) k)
    · refine pk_if (fun _ => ?_) (fun _ => ?_)
      · refine pk_ob2 (w_f_X7_kind h) (fun r_8 h_8 k_1 => ?_)
        replace k_1 := Fr_trans (Fr_refl _ h) (Fr_mono fs_X7_kind__read_2 k_1)
        refine pk_obf (fun r_9 => ?_)
        refine pk_if (fun _ => ?_) (fun _ => ?_)
        · refine pk_ob2 (w_f_X7_kind h_8) (fun r_11 h_11 k_2 => ?_)
          replace k_2 := Fr_trans k_1 (Fr_mono fs_X7_kind__read_2 k_2)
          refine pk_ob1 (w_f_X7_advance h_11) (fun h_12 k_3 => ?_)
          replace k_3 := Fr_trans k_2 (Fr_mono fs_X7_advance__read_2 k_3)
          refine pk_ob1 (hk_kR_X2_readLevel h_12 (x3 + 1) x4) (fun h_13 k_4 => ?_)
          replace k_4 := Fr_trans k_3 k_4
          refine pk_ob1 (w_f_X6_addStep_2 h_13 (20000 + r_11)) (fun h_14 k_5 => ?_)
          replace k_5 := Fr_trans k_4 (Fr_mono fs_X6_addStep_2__read_2 k_5)
          exact pk_mono (ih h_14 x3 x4 (x5 + 1)) (fun _ k => Fr_trans k_5 k)
        · exact pk_mono (w_f_X2_readLevel_2_105 kR_X2_readLevel hk_kR_X2_readLevel kR_X2_readAsk hk_kR_X2_readAsk kR_X2_readOne hk_kR_X2_readOne h_8) (fun _ k => Fr_trans k_1 k)
      · exact pk_mono (w_f_X2_readLevel_2_105 kR_X2_readLevel hk_kR_X2_readLevel kR_X2_readAsk hk_kR_X2_readAsk kR_X2_readOne hk_kR_X2_readOne h) (fun _ k => Fr_trans (Fr_refl _ h) k)
theorem w_f_X2_readLevel_2_b (kR_X2_readLevel : HS → Int32 → Int32 → Option HS) (hk_kR_X2_readLevel : ∀ (h : HS) (x0 : Int32) (x1 : Int32), pk (kR_X2_readLevel h x0 x1) (fun a => Fr S_read_2 h a)) (kR_X2_readAsk : HS → Int32 → Option HS) (hk_kR_X2_readAsk : ∀ (h : HS) (x0 : Int32), pk (kR_X2_readAsk h x0) (fun a => Fr S_read_2 h a)) (kR_X2_readOne : HS → Int32 → Option HS) (hk_kR_X2_readOne : ∀ (h : HS) (x0 : Int32), pk (kR_X2_readOne h x0) (fun a => Fr S_read_2 h a)) (h : HS) (p1 : Int32) (p2 : Int32) : pk (f_X2_readLevel_2_b kR_X2_readLevel kR_X2_readAsk kR_X2_readOne h p1 p2) (fun a => Fr S_read_2 h a) := by
  unfold f_X2_readLevel_2_b
  refine pk_if (fun _ => ?_) (fun _ => ?_)
  · refine pk_ob1 (hk_kR_X2_readAsk h p2) (fun h_5 k_1 => ?_)
    replace k_1 := Fr_trans (Fr_refl _ h) k_1
    exact pk_some k_1
  · refine pk_if (fun _ => ?_) (fun _ => ?_)
    · refine pk_ob1 (hk_kR_X2_readOne h p2) (fun h_4 k_2 => ?_)
      replace k_2 := Fr_trans (Fr_refl _ h) k_2
      exact pk_some k_2
    · refine pk_ob1 (hk_kR_X2_readLevel h (p1 + 1) p2) (fun h_3 k_3 => ?_)
      replace k_3 := Fr_trans (Fr_refl _ h) k_3
      exact pk_mono (w_f_X2_readLevel_2_42 kR_X2_readLevel hk_kR_X2_readLevel kR_X2_readAsk hk_kR_X2_readAsk kR_X2_readOne hk_kR_X2_readOne 8589934592 h_3 p1 p2 0) (fun _ k => Fr_trans k_3 k)
theorem w_f_X2_readAsk_2_97 (kR_X2_readLevel : HS → Int32 → Int32 → Option HS) (hk_kR_X2_readLevel : ∀ (h : HS) (x0 : Int32) (x1 : Int32), pk (kR_X2_readLevel h x0 x1) (fun a => Fr S_read_2 h a)) (kR_X2_readAsk : HS → Int32 → Option HS) (hk_kR_X2_readAsk : ∀ (h : HS) (x0 : Int32), pk (kR_X2_readAsk h x0) (fun a => Fr S_read_2 h a)) (kR_X2_readOne : HS → Int32 → Option HS) (hk_kR_X2_readOne : ∀ (h : HS) (x0 : Int32), pk (kR_X2_readOne h x0) (fun a => Fr S_read_2 h a)) (h : HS) : pk (f_X2_readAsk_2_97 kR_X2_readLevel kR_X2_readAsk kR_X2_readOne h) (fun a => Fr S_read_2 h a) := by
  unfold f_X2_readAsk_2_97
  exact pk_some (Fr_refl _ h)
theorem w_f_X2_readAsk_2_68 (kR_X2_readLevel : HS → Int32 → Int32 → Option HS) (hk_kR_X2_readLevel : ∀ (h : HS) (x0 : Int32) (x1 : Int32), pk (kR_X2_readLevel h x0 x1) (fun a => Fr S_read_2 h a)) (kR_X2_readAsk : HS → Int32 → Option HS) (hk_kR_X2_readAsk : ∀ (h : HS) (x0 : Int32), pk (kR_X2_readAsk h x0) (fun a => Fr S_read_2 h a)) (kR_X2_readOne : HS → Int32 → Option HS) (hk_kR_X2_readOne : ∀ (h : HS) (x0 : Int32), pk (kR_X2_readOne h x0) (fun a => Fr S_read_2 h a)) (h : HS) (x3 : Int32) (x4 : Int32) : pk (f_X2_readAsk_2_68 kR_X2_readLevel kR_X2_readAsk kR_X2_readOne h x3 x4) (fun a => Fr S_read_2 h a) := by
  unfold f_X2_readAsk_2_68
  refine pk_if (fun _ => ?_) (fun _ => ?_)
  · refine pk_ob1 (w_f_X7_advance h) (fun h_13 k_1 => ?_)
    replace k_1 := Fr_trans (Fr_refl _ h) (Fr_mono fs_X7_advance__read_2 k_1)
    refine pk_ob1 (hk_kR_X2_readLevel h_13 3 x3) (fun h_14 k_2 => ?_)
    replace k_2 := Fr_trans k_1 k_2
    refine pk_ob1 (w_f_X6_addStep_2 h_14 (20000 + x4)) (fun h_15 k_3 => ?_)
    replace k_3 := Fr_trans k_2 (Fr_mono fs_X6_addStep_2__read_2 k_3)
    exact pk_mono (w_f_X2_readAsk_2_97 kR_X2_readLevel hk_kR_X2_readLevel kR_X2_readAsk hk_kR_X2_readAsk kR_X2_readOne hk_kR_X2_readOne h_15) (fun _ k => Fr_trans k_3 k)
  · exact pk_mono (w_f_X2_readAsk_2_97 kR_X2_readLevel hk_kR_X2_readLevel kR_X2_readAsk hk_kR_X2_readAsk kR_X2_readOne hk_kR_X2_readOne h) (fun _ k => Fr_trans (Fr_refl _ h) k)
theorem fs_X2_fail__read_2 : ∀ x ∈ S_X2_fail, x ∈ S_read_2 := by decide
theorem w_f_X2_readAsk_2_62 (kR_X2_readLevel : HS → Int32 → Int32 → Option HS) (hk_kR_X2_readLevel : ∀ (h : HS) (x0 : Int32) (x1 : Int32), pk (kR_X2_readLevel h x0 x1) (fun a => Fr S_read_2 h a)) (kR_X2_readAsk : HS → Int32 → Option HS) (hk_kR_X2_readAsk : ∀ (h : HS) (x0 : Int32), pk (kR_X2_readAsk h x0) (fun a => Fr S_read_2 h a)) (kR_X2_readOne : HS → Int32 → Option HS) (hk_kR_X2_readOne : ∀ (h : HS) (x0 : Int32), pk (kR_X2_readOne h x0) (fun a => Fr S_read_2 h a)) (h : HS) (x3 : Int32) (x4 : Int32) : pk (f_X2_readAsk_2_62 kR_X2_readLevel kR_X2_readAsk kR_X2_readOne h x3 x4) (fun a => Fr S_read_2 h a) := by
  unfold f_X2_readAsk_2_62
  refine pk_ob1 (w_f_X2_fail h 1) (fun h_11 k_1 => ?_)
  replace k_1 := Fr_trans (Fr_refl _ h) (Fr_mono fs_X2_fail__read_2 k_1)
  exact pk_mono (w_f_X2_readAsk_2_68 kR_X2_readLevel hk_kR_X2_readLevel kR_X2_readAsk hk_kR_X2_readAsk kR_X2_readOne hk_kR_X2_readOne h_11 x3 x4) (fun _ k => Fr_trans k_1 k)
theorem w_f_X2_readAsk_2_34 (kR_X2_readLevel : HS → Int32 → Int32 → Option HS) (hk_kR_X2_readLevel : ∀ (h : HS) (x0 : Int32) (x1 : Int32), pk (kR_X2_readLevel h x0 x1) (fun a => Fr S_read_2 h a)) (kR_X2_readAsk : HS → Int32 → Option HS) (hk_kR_X2_readAsk : ∀ (h : HS) (x0 : Int32), pk (kR_X2_readAsk h x0) (fun a => Fr S_read_2 h a)) (kR_X2_readOne : HS → Int32 → Option HS) (hk_kR_X2_readOne : ∀ (h : HS) (x0 : Int32), pk (kR_X2_readOne h x0) (fun a => Fr S_read_2 h a)) (h : HS) : pk (f_X2_readAsk_2_34 kR_X2_readLevel kR_X2_readAsk kR_X2_readOne h) (fun a => Fr S_read_2 h a) := by
  unfold f_X2_readAsk_2_34
  exact pk_some (Fr_refl _ h)
theorem fs_X2_opens__read_2 : ∀ x ∈ S_X2_opens, x ∈ S_read_2 := by decide
theorem w_f_X2_readAsk_2_b (kR_X2_readLevel : HS → Int32 → Int32 → Option HS) (hk_kR_X2_readLevel : ∀ (h : HS) (x0 : Int32) (x1 : Int32), pk (kR_X2_readLevel h x0 x1) (fun a => Fr S_read_2 h a)) (kR_X2_readAsk : HS → Int32 → Option HS) (hk_kR_X2_readAsk : ∀ (h : HS) (x0 : Int32), pk (kR_X2_readAsk h x0) (fun a => Fr S_read_2 h a)) (kR_X2_readOne : HS → Int32 → Option HS) (hk_kR_X2_readOne : ∀ (h : HS) (x0 : Int32), pk (kR_X2_readOne h x0) (fun a => Fr S_read_2 h a)) (h : HS) (p1 : Int32) : pk (f_X2_readAsk_2_b kR_X2_readLevel kR_X2_readAsk kR_X2_readOne h p1) (fun a => Fr S_read_2 h a) := by
  unfold f_X2_readAsk_2_b
  refine pk_ob2 (w_f_X7_kind h) (fun r_1 h_1 k_1 => ?_)
  replace k_1 := Fr_trans (Fr_refl _ h) (Fr_mono fs_X7_kind__read_2 k_1)
  refine pk_if (fun _ => ?_) (fun _ => ?_)
  · refine pk_ob2 (w_f_X2_opens h_1 p1) (fun r_7 h_7 k_2 => ?_)
    replace k_2 := Fr_trans k_1 (Fr_mono fs_X2_opens__read_2 k_2)
    refine pk_if (fun _ => ?_) (fun _ => ?_)
    · exact pk_mono (w_f_X2_readAsk_2_34 kR_X2_readLevel hk_kR_X2_readLevel kR_X2_readAsk hk_kR_X2_readAsk kR_X2_readOne hk_kR_X2_readOne h_7) (fun _ k => Fr_trans k_2 k)
    · refine pk_ob1 (hk_kR_X2_readAsk h_7 (p1 + 1)) (fun h_9 k_3 => ?_)
      replace k_3 := Fr_trans k_2 k_3
      refine pk_ob1 (w_f_X6_addStep_2 h_9 20028) (fun h_10 k_4 => ?_)
      replace k_4 := Fr_trans k_3 (Fr_mono fs_X6_addStep_2__read_2 k_4)
      exact pk_mono (w_f_X2_readAsk_2_34 kR_X2_readLevel hk_kR_X2_readLevel kR_X2_readAsk hk_kR_X2_readAsk kR_X2_readOne hk_kR_X2_readOne h_10) (fun _ k => Fr_trans k_4 k)
  · refine pk_ob1 (hk_kR_X2_readLevel h_1 3 p1) (fun h_3 k_5 => ?_)
    replace k_5 := Fr_trans k_1 k_5
    refine pk_ob2 (w_f_X7_kind h_3) (fun r_4 h_4 k_6 => ?_)
    replace k_6 := Fr_trans k_5 (Fr_mono fs_X7_kind__read_2 k_6)
    refine pk_if (fun _ => ?_) (fun _ => ?_)
    · exact pk_mono (w_f_X2_readAsk_2_62 kR_X2_readLevel hk_kR_X2_readLevel kR_X2_readAsk hk_kR_X2_readAsk kR_X2_readOne hk_kR_X2_readOne h_4 p1 r_4) (fun _ k => Fr_trans k_6 k)
    · refine pk_if (fun _ => ?_) (fun _ => ?_)
      · exact pk_mono (w_f_X2_readAsk_2_68 kR_X2_readLevel hk_kR_X2_readLevel kR_X2_readAsk hk_kR_X2_readAsk kR_X2_readOne hk_kR_X2_readOne h_4 p1 r_4) (fun _ k => Fr_trans k_6 k)
      · exact pk_mono (w_f_X2_readAsk_2_62 kR_X2_readLevel hk_kR_X2_readLevel kR_X2_readAsk hk_kR_X2_readAsk kR_X2_readOne hk_kR_X2_readOne h_4 p1 r_4) (fun _ k => Fr_trans k_6 k)
theorem w_f_X2_readOne_2_121 (kR_X2_readLevel : HS → Int32 → Int32 → Option HS) (hk_kR_X2_readLevel : ∀ (h : HS) (x0 : Int32) (x1 : Int32), pk (kR_X2_readLevel h x0 x1) (fun a => Fr S_read_2 h a)) (kR_X2_readAsk : HS → Int32 → Option HS) (hk_kR_X2_readAsk : ∀ (h : HS) (x0 : Int32), pk (kR_X2_readAsk h x0) (fun a => Fr S_read_2 h a)) (kR_X2_readOne : HS → Int32 → Option HS) (hk_kR_X2_readOne : ∀ (h : HS) (x0 : Int32), pk (kR_X2_readOne h x0) (fun a => Fr S_read_2 h a)) (h : HS) : pk (f_X2_readOne_2_121 kR_X2_readLevel kR_X2_readAsk kR_X2_readOne h) (fun a => Fr S_read_2 h a) := by
  unfold f_X2_readOne_2_121
  exact pk_some (Fr_refl _ h)
theorem fs_X2_expect__read_2 : ∀ x ∈ S_X2_expect, x ∈ S_read_2 := by decide
theorem w_f_X2_readOne_2_44 (kR_X2_readLevel : HS → Int32 → Int32 → Option HS) (hk_kR_X2_readLevel : ∀ (h : HS) (x0 : Int32) (x1 : Int32), pk (kR_X2_readLevel h x0 x1) (fun a => Fr S_read_2 h a)) (kR_X2_readAsk : HS → Int32 → Option HS) (hk_kR_X2_readAsk : ∀ (h : HS) (x0 : Int32), pk (kR_X2_readAsk h x0) (fun a => Fr S_read_2 h a)) (kR_X2_readOne : HS → Int32 → Option HS) (hk_kR_X2_readOne : ∀ (h : HS) (x0 : Int32), pk (kR_X2_readOne h x0) (fun a => Fr S_read_2 h a)) (h : HS) (x3 : Int32) (x4 : Int32) : pk (f_X2_readOne_2_44 kR_X2_readLevel kR_X2_readAsk kR_X2_readOne h x3 x4) (fun a => Fr S_read_2 h a) := by
  unfold f_X2_readOne_2_44
  refine pk_if (fun _ => ?_) (fun _ => ?_)
  · refine pk_ob2 (w_f_X2_opens h x3) (fun r_14 h_14 k_1 => ?_)
    replace k_1 := Fr_trans (Fr_refl _ h) (Fr_mono fs_X2_opens__read_2 k_1)
    refine pk_if (fun _ => ?_) (fun _ => ?_)
    · exact pk_mono (w_f_X2_readOne_2_121 kR_X2_readLevel hk_kR_X2_readLevel kR_X2_readAsk hk_kR_X2_readAsk kR_X2_readOne hk_kR_X2_readOne h_14) (fun _ k => Fr_trans k_1 k)
    · refine pk_ob1 (hk_kR_X2_readLevel h_14 3 (x3 + 1)) (fun h_16 k_2 => ?_)
      replace k_2 := Fr_trans k_1 k_2
      refine pk_ob1 (w_f_X2_expect h_16 14) (fun h_17 k_3 => ?_)
      replace k_3 := Fr_trans k_2 (Fr_mono fs_X2_expect__read_2 k_3)
      exact pk_mono (w_f_X2_readOne_2_121 kR_X2_readLevel hk_kR_X2_readLevel kR_X2_readAsk hk_kR_X2_readAsk kR_X2_readOne hk_kR_X2_readOne h_17) (fun _ k => Fr_trans k_3 k)
  · refine pk_if (fun _ => ?_) (fun _ => ?_)
    · refine pk_ob2 (w_f_X2_opens h x3) (fun r_10 h_10 k_4 => ?_)
      replace k_4 := Fr_trans (Fr_refl _ h) (Fr_mono fs_X2_opens__read_2 k_4)
      refine pk_if (fun _ => ?_) (fun _ => ?_)
      · exact pk_mono (w_f_X2_readOne_2_121 kR_X2_readLevel hk_kR_X2_readLevel kR_X2_readAsk hk_kR_X2_readAsk kR_X2_readOne hk_kR_X2_readOne h_10) (fun _ k => Fr_trans k_4 k)
      · refine pk_ob1 (hk_kR_X2_readOne h_10 (x3 + 1)) (fun h_12 k_5 => ?_)
        replace k_5 := Fr_trans k_4 k_5
        refine pk_ob1 (w_f_X6_addStep_2 h_12 20038) (fun h_13 k_6 => ?_)
        replace k_6 := Fr_trans k_5 (Fr_mono fs_X6_addStep_2__read_2 k_6)
        exact pk_mono (w_f_X2_readOne_2_121 kR_X2_readLevel hk_kR_X2_readLevel kR_X2_readAsk hk_kR_X2_readAsk kR_X2_readOne hk_kR_X2_readOne h_13) (fun _ k => Fr_trans k_6 k)
    · refine pk_ob1 (w_f_X2_fail h 1) (fun h_9 k_7 => ?_)
      replace k_7 := Fr_trans (Fr_refl _ h) (Fr_mono fs_X2_fail__read_2 k_7)
      exact pk_mono (w_f_X2_readOne_2_121 kR_X2_readLevel hk_kR_X2_readLevel kR_X2_readAsk hk_kR_X2_readAsk kR_X2_readOne hk_kR_X2_readOne h_9) (fun _ k => Fr_trans k_7 k)
theorem fs_X2_readValue_2__read_2 : ∀ x ∈ S_X2_readValue_2, x ∈ S_read_2 := by decide
theorem fs_X2_readName_2__read_2 : ∀ x ∈ S_X2_readName_2, x ∈ S_read_2 := by decide
theorem w_f_X2_readOne_2_b (kR_X2_readLevel : HS → Int32 → Int32 → Option HS) (hk_kR_X2_readLevel : ∀ (h : HS) (x0 : Int32) (x1 : Int32), pk (kR_X2_readLevel h x0 x1) (fun a => Fr S_read_2 h a)) (kR_X2_readAsk : HS → Int32 → Option HS) (hk_kR_X2_readAsk : ∀ (h : HS) (x0 : Int32), pk (kR_X2_readAsk h x0) (fun a => Fr S_read_2 h a)) (kR_X2_readOne : HS → Int32 → Option HS) (hk_kR_X2_readOne : ∀ (h : HS) (x0 : Int32), pk (kR_X2_readOne h x0) (fun a => Fr S_read_2 h a)) (h : HS) (p1 : Int32) : pk (f_X2_readOne_2_b kR_X2_readLevel kR_X2_readAsk kR_X2_readOne h p1) (fun a => Fr S_read_2 h a) := by
  unfold f_X2_readOne_2_b
  refine pk_ob2 (w_f_X7_kind h) (fun r_1 h_1 k_1 => ?_)
  replace k_1 := Fr_trans (Fr_refl _ h) (Fr_mono fs_X7_kind__read_2 k_1)
  refine pk_if (fun _ => ?_) (fun _ => ?_)
  · refine pk_ob1 (w_f_X2_readValue_2 h_1) (fun h_6 k_2 => ?_)
    replace k_2 := Fr_trans k_1 (Fr_mono fs_X2_readValue_2__read_2 k_2)
    exact pk_mono (w_f_X2_readOne_2_121 kR_X2_readLevel hk_kR_X2_readLevel kR_X2_readAsk hk_kR_X2_readAsk kR_X2_readOne hk_kR_X2_readOne h_6) (fun _ k => Fr_trans k_2 k)
  · refine pk_if (fun _ => ?_) (fun _ => ?_)
    · exact pk_mono (w_f_X2_readOne_2_44 kR_X2_readLevel hk_kR_X2_readLevel kR_X2_readAsk hk_kR_X2_readAsk kR_X2_readOne hk_kR_X2_readOne h_1 p1 r_1) (fun _ k => Fr_trans k_1 k)
    · refine pk_if (fun _ => ?_) (fun _ => ?_)
      · exact pk_mono (w_f_X2_readOne_2_44 kR_X2_readLevel hk_kR_X2_readLevel kR_X2_readAsk hk_kR_X2_readAsk kR_X2_readOne hk_kR_X2_readOne h_1 p1 r_1) (fun _ k => Fr_trans k_1 k)
      · refine pk_ob1 (w_f_X2_readName_2 h_1) (fun h_5 k_3 => ?_)
        replace k_3 := Fr_trans k_1 (Fr_mono fs_X2_readName_2__read_2 k_3)
        exact pk_mono (w_f_X2_readOne_2_121 kR_X2_readLevel hk_kR_X2_readLevel kR_X2_readAsk hk_kR_X2_readAsk kR_X2_readOne hk_kR_X2_readOne h_5) (fun _ k => Fr_trans k_3 k)
theorem w_G_read_2 : ∀ (n t : Nat) (h : HS) (p1 p2 : Int32), pk (G_read_2 n t h p1 p2) (fun a => Fr S_read_2 h a) := by
  intro n
  induction n with
  | zero => intro t h p1 p2; exact (by simp [G_read_2]; exact pk_none)
  | succ n ih =>
    intro t h p1 p2
    match t with
    | 0 => exact w_f_X2_readLevel_2_b (fun h p1 p2 => G_read_2 n 0 h p1 p2) (fun h p1 p2 => ih 0 h p1 p2) (fun h p1 => G_read_2 n 1 h p1 0) (fun h p1 => ih 1 h p1 0) (fun h p1 => G_read_2 n 2 h p1 0) (fun h p1 => ih 2 h p1 0) h p1 p2
    | 1 => exact w_f_X2_readAsk_2_b (fun h p1 p2 => G_read_2 n 0 h p1 p2) (fun h p1 p2 => ih 0 h p1 p2) (fun h p1 => G_read_2 n 1 h p1 0) (fun h p1 => ih 1 h p1 0) (fun h p1 => G_read_2 n 2 h p1 0) (fun h p1 => ih 2 h p1 0) h p1
    | t + 2 => exact w_f_X2_readOne_2_b (fun h p1 p2 => G_read_2 n 0 h p1 p2) (fun h p1 p2 => ih 0 h p1 p2) (fun h p1 => G_read_2 n 1 h p1 0) (fun h p1 => ih 1 h p1 0) (fun h p1 => G_read_2 n 2 h p1 0) (fun h p1 => ih 2 h p1 0) h p1
def S_X2_readClause_2_158 : CL := []
theorem w_f_X2_readClause_2_158 (h : HS) : pk (f_X2_readClause_2_158 h) (fun a => Fr S_X2_readClause_2_158 h a) := by
  unfold f_X2_readClause_2_158
  exact pk_some (Fr_refl _ h)
def S_X2_readClause_2_25 : CL := [(0, 5, 0), (0, 5, 1)]
theorem fs_X2_fail__X2_readClause_2_25 : ∀ x ∈ S_X2_fail, x ∈ S_X2_readClause_2_25 := by decide
theorem fs_X2_readClause_2_158__X2_readClause_2_25 : ∀ x ∈ S_X2_readClause_2_158, x ∈ S_X2_readClause_2_25 := by decide
theorem w_f_X2_readClause_2_25 (h : HS) : pk (f_X2_readClause_2_25 h) (fun a => Fr S_X2_readClause_2_25 h a) := by
  unfold f_X2_readClause_2_25
  refine pk_ob1 (w_f_X2_fail h 1) (fun h_15 k_1 => ?_)
  replace k_1 := Fr_trans (Fr_refl _ h) (Fr_mono fs_X2_fail__X2_readClause_2_25 k_1)
  exact pk_mono (w_f_X2_readClause_2_158 h_15) (fun _ k => Fr_trans k_1 (Fr_mono fs_X2_readClause_2_158__X2_readClause_2_25 k))
def S_X2_readClause_2_141 : CL := [(0, 4, 4), (0, 5, 0), (0, 5, 1), (0, 11, 1)]
theorem fm_X2_readClause_2_141_0_11_1 : (0, 11, 1) ∈ S_X2_readClause_2_141 := by decide
theorem fs_X2_expect__X2_readClause_2_141 : ∀ x ∈ S_X2_expect, x ∈ S_X2_readClause_2_141 := by decide
theorem fs_X2_readClause_2_158__X2_readClause_2_141 : ∀ x ∈ S_X2_readClause_2_158, x ∈ S_X2_readClause_2_141 := by decide
theorem w_f_X2_readClause_2_141 (h : HS) : pk (f_X2_readClause_2_141 h) (fun a => Fr S_X2_readClause_2_141 h a) := by
  unfold f_X2_readClause_2_141
  refine pk_ob1 (w_f_X2_expect h 15) (fun h_16 k_1 => ?_)
  replace k_1 := Fr_trans (Fr_refl _ h) (Fr_mono fs_X2_expect__X2_readClause_2_141 k_1)
  exact pk_mono (w_f_X2_readClause_2_158 (sI h_16 11 1 ((eI h_16 11 1) + 1))) (fun _ k => Fr_trans (Fr_sI fm_X2_readClause_2_141_0_11_1 k_1) (Fr_mono fs_X2_readClause_2_158__X2_readClause_2_141 k))
def S_X2_readClause_2_119 : CL := [(0, 4, 4), (0, 5, 0), (0, 5, 1), (0, 11, 1), (0, 11, 5), (1, 11, 2), (1, 11, 4)]
theorem fs_read_2__X2_readClause_2_119 : ∀ x ∈ S_read_2, x ∈ S_X2_readClause_2_119 := by decide
theorem fs_X6_closeLaw_2__X2_readClause_2_119 : ∀ x ∈ S_X6_closeLaw_2, x ∈ S_X2_readClause_2_119 := by decide
theorem fs_X2_readClause_2_141__X2_readClause_2_119 : ∀ x ∈ S_X2_readClause_2_141, x ∈ S_X2_readClause_2_119 := by decide
theorem w_f_X2_readClause_2_119 (h : HS) (y0 : Int32) : pk (f_X2_readClause_2_119 h y0) (fun a => Fr S_X2_readClause_2_119 h a) := by
  unfold f_X2_readClause_2_119
  refine pk_ob1 (w_G_read_2 200 0 h y0 0) (fun h_17 k_1 => ?_)
  replace k_1 := Fr_trans (Fr_refl _ h) (Fr_mono fs_read_2__X2_readClause_2_119 k_1)
  refine pk_ob1 (w_f_X6_closeLaw_2 h_17 (eI h_17 5 2)) (fun h_18 k_2 => ?_)
  replace k_2 := Fr_trans k_1 (Fr_mono fs_X6_closeLaw_2__X2_readClause_2_119 k_2)
  exact pk_mono (w_f_X2_readClause_2_141 h_18) (fun _ k => Fr_trans k_2 (Fr_mono fs_X2_readClause_2_141__X2_readClause_2_119 k))
def S_X2_readClause_2 : CL := [(0, 4, 4), (0, 5, 0), (0, 5, 1), (0, 5, 2), (0, 11, 1), (0, 11, 5), (1, 11, 0), (1, 11, 2), (1, 11, 3), (1, 11, 4)]
theorem fm_X2_readClause_2_0_5_2 : (0, 5, 2) ∈ S_X2_readClause_2 := by decide
theorem fs_X7_kind__X2_readClause_2 : ∀ x ∈ S_X7_kind, x ∈ S_X2_readClause_2 := by decide
theorem fs_X2_readClause_2_25__X2_readClause_2 : ∀ x ∈ S_X2_readClause_2_25, x ∈ S_X2_readClause_2 := by decide
theorem fs_X6_hasLaw_2__X2_readClause_2 : ∀ x ∈ S_X6_hasLaw_2, x ∈ S_X2_readClause_2 := by decide
theorem fs_X6_setClause_2__X2_readClause_2 : ∀ x ∈ S_X6_setClause_2, x ∈ S_X2_readClause_2 := by decide
theorem fs_X7_advance__X2_readClause_2 : ∀ x ∈ S_X7_advance, x ∈ S_X2_readClause_2 := by decide
theorem fs_X2_readDeed_2__X2_readClause_2 : ∀ x ∈ S_X2_readDeed_2, x ∈ S_X2_readClause_2 := by decide
theorem fs_X2_readClause_2_141__X2_readClause_2 : ∀ x ∈ S_X2_readClause_2_141, x ∈ S_X2_readClause_2 := by decide
theorem fs_X6_beginLaw_2__X2_readClause_2 : ∀ x ∈ S_X6_beginLaw_2, x ∈ S_X2_readClause_2 := by decide
theorem fs_X2_readClause_2_119__X2_readClause_2 : ∀ x ∈ S_X2_readClause_2_119, x ∈ S_X2_readClause_2 := by decide
theorem fs_X2_fail__X2_readClause_2 : ∀ x ∈ S_X2_fail, x ∈ S_X2_readClause_2 := by decide
theorem fs_X2_readClause_2_158__X2_readClause_2 : ∀ x ∈ S_X2_readClause_2_158, x ∈ S_X2_readClause_2 := by decide
theorem w_f_X2_readClause_2 (h : HS) : pk (f_X2_readClause_2 h) (fun a => Fr S_X2_readClause_2 h a) := by
  unfold f_X2_readClause_2
  refine pk_ob2 (w_f_X7_kind h) (fun r_1 h_1 k_1 => ?_)
  replace k_1 := Fr_trans (Fr_refl _ h) (Fr_mono fs_X7_kind__X2_readClause_2 k_1)
  refine pk_if (fun _ => ?_) (fun _ => ?_)
  · exact pk_mono (w_f_X2_readClause_2_25 (sI h_1 5 2 (r_1 - 16))) (fun _ k => Fr_trans (Fr_sI fm_X2_readClause_2_0_5_2 k_1) (Fr_mono fs_X2_readClause_2_25__X2_readClause_2 k))
  · refine pk_if (fun _ => ?_) (fun _ => ?_)
    · refine pk_ob2 (w_f_X6_hasLaw_2 (sI h_1 5 2 (r_1 - 16)) (r_1 - 16)) (fun r_4 h_4 k_2 => ?_)
      replace k_2 := Fr_trans (Fr_sI fm_X2_readClause_2_0_5_2 k_1) (Fr_mono fs_X6_hasLaw_2__X2_readClause_2 k_2)
      refine pk_if (fun _ => ?_) (fun _ => ?_)
      · refine pk_if (fun _ => ?_) (fun _ => ?_)
        · refine pk_ob1 (w_f_X6_setClause_2 h_4 (eI h_4 11 1) 0 r_1) (fun h_7 k_3 => ?_)
          replace k_3 := Fr_trans k_2 (Fr_mono fs_X6_setClause_2__X2_readClause_2 k_3)
          refine pk_ob1 (w_f_X7_advance h_7) (fun h_8 k_4 => ?_)
          replace k_4 := Fr_trans k_3 (Fr_mono fs_X7_advance__X2_readClause_2 k_4)
          refine pk_if (fun _ => ?_) (fun _ => ?_)
          · refine pk_ob1 (w_f_X2_readDeed_2 h_8 r_1) (fun h_10 k_5 => ?_)
            replace k_5 := Fr_trans k_4 (Fr_mono fs_X2_readDeed_2__X2_readClause_2 k_5)
            exact pk_mono (w_f_X2_readClause_2_141 h_10) (fun _ k => Fr_trans k_5 (Fr_mono fs_X2_readClause_2_141__X2_readClause_2 k))
          · refine pk_ob1 (w_f_X6_beginLaw_2 h_8 (eI h_8 5 2)) (fun h_11 k_6 => ?_)
            replace k_6 := Fr_trans k_4 (Fr_mono fs_X6_beginLaw_2__X2_readClause_2 k_6)
            refine pk_if (fun _ => ?_) (fun _ => ?_)
            · exact pk_mono (w_f_X2_readClause_2_119 h_11 0) (fun _ k => Fr_trans k_6 (Fr_mono fs_X2_readClause_2_119__X2_readClause_2 k))
            · exact pk_mono (w_f_X2_readClause_2_119 h_11 3) (fun _ k => Fr_trans k_6 (Fr_mono fs_X2_readClause_2_119__X2_readClause_2 k))
        · refine pk_ob1 (w_f_X2_fail h_4 6) (fun h_13 k_7 => ?_)
          replace k_7 := Fr_trans k_2 (Fr_mono fs_X2_fail__X2_readClause_2 k_7)
          exact pk_mono (w_f_X2_readClause_2_158 h_13) (fun _ k => Fr_trans k_7 (Fr_mono fs_X2_readClause_2_158__X2_readClause_2 k))
      · refine pk_ob1 (w_f_X2_fail h_4 4) (fun h_14 k_8 => ?_)
        replace k_8 := Fr_trans k_2 (Fr_mono fs_X2_fail__X2_readClause_2 k_8)
        exact pk_mono (w_f_X2_readClause_2_158 h_14) (fun _ k => Fr_trans k_8 (Fr_mono fs_X2_readClause_2_158__X2_readClause_2 k))
    · exact pk_mono (w_f_X2_readClause_2_25 (sI h_1 5 2 (r_1 - 16))) (fun _ k => Fr_trans (Fr_sI fm_X2_readClause_2_0_5_2 k_1) (Fr_mono fs_X2_readClause_2_25__X2_readClause_2 k))
def S_X2_parse_2_48 : CL := []
theorem w_f_X2_parse_2_48 (h : HS) : pk (f_X2_parse_2_48 h) (fun a => Fr S_X2_parse_2_48 h a) := by
  unfold f_X2_parse_2_48
  exact pk_some (Fr_refl _ h)
def S_X2_parse_2_16 : CL := [(0, 4, 4), (0, 5, 0), (0, 5, 1), (0, 5, 2), (0, 11, 1), (0, 11, 5), (1, 11, 0), (1, 11, 2), (1, 11, 3), (1, 11, 4)]
theorem fs_X2_parse_2_48__X2_parse_2_16 : ∀ x ∈ S_X2_parse_2_48, x ∈ S_X2_parse_2_16 := by decide
theorem fs_X7_kind__X2_parse_2_16 : ∀ x ∈ S_X7_kind, x ∈ S_X2_parse_2_16 := by decide
theorem fs_X2_readClause_2__X2_parse_2_16 : ∀ x ∈ S_X2_readClause_2, x ∈ S_X2_parse_2_16 := by decide
theorem w_f_X2_parse_2_16  : ∀ (n : Nat) (h : HS) (x3 : Int32), pk (f_X2_parse_2_16  n h x3) (fun a => Fr S_X2_parse_2_16 h a) := by
  intro n
  induction n with
  | zero => intro h x3; exact pk_none
  | succ n ih =>
    intro h x3
    rw [f_X2_parse_2_16_s]
    refine pk_if (fun _ => ?_) (fun _ => ?_)
    · exact pk_mono (w_f_X2_parse_2_48 h) (fun _ k => Fr_trans (Fr_refl _ h) (Fr_mono fs_X2_parse_2_48__X2_parse_2_16 k))
    · refine pk_if (fun _ => ?_) (fun _ => ?_)
      · refine pk_ob2 (w_f_X7_kind h) (fun r_4 h_4 k_1 => ?_)
        replace k_1 := Fr_trans (Fr_refl _ h) (Fr_mono fs_X7_kind__X2_parse_2_16 k_1)
        refine pk_if (fun _ => ?_) (fun _ => ?_)
        · exact pk_mono (w_f_X2_parse_2_48 h_4) (fun _ k => Fr_trans k_1 (Fr_mono fs_X2_parse_2_48__X2_parse_2_16 k))
        · refine pk_ob1 (w_f_X2_readClause_2 h_4) (fun h_6 k_2 => ?_)
          replace k_2 := Fr_trans k_1 (Fr_mono fs_X2_readClause_2__X2_parse_2_16 k_2)
          exact pk_mono (ih h_6 (x3 + 1)) (fun _ k => Fr_trans k_2 k)
      · exact pk_mono (w_f_X2_parse_2_48 h) (fun _ k => Fr_trans (Fr_refl _ h) (Fr_mono fs_X2_parse_2_48__X2_parse_2_16 k))
def S_X2_parse_2 : CL := [(0, 4, 4), (0, 5, 0), (0, 5, 1), (0, 5, 2), (0, 11, 1), (0, 11, 5), (1, 11, 0), (1, 11, 2), (1, 11, 3), (1, 11, 4)]
theorem fm_X2_parse_2_0_5_1 : (0, 5, 1) ∈ S_X2_parse_2 := by decide
theorem fm_X2_parse_2_0_5_0 : (0, 5, 0) ∈ S_X2_parse_2 := by decide
theorem fs_X6_clear_2__X2_parse_2 : ∀ x ∈ S_X6_clear_2, x ∈ S_X2_parse_2 := by decide
theorem fs_X2_parse_2_16__X2_parse_2 : ∀ x ∈ S_X2_parse_2_16, x ∈ S_X2_parse_2 := by decide
theorem w_f_X2_parse_2 (h : HS) : pk (f_X2_parse_2 h) (fun a => Fr S_X2_parse_2 h a) := by
  unfold f_X2_parse_2
  refine pk_ob1 (w_f_X6_clear_2 (sI (sI h 5 0 0) 5 1 (-1))) (fun h_1 k_1 => ?_)
  replace k_1 := Fr_trans (Fr_sI fm_X2_parse_2_0_5_1 (Fr_sI fm_X2_parse_2_0_5_0 (Fr_refl _ h))) (Fr_mono fs_X6_clear_2__X2_parse_2 k_1)
  exact pk_mono (w_f_X2_parse_2_16 8589934592 h_1 0) (fun _ k => Fr_trans k_1 (Fr_mono fs_X2_parse_2_16__X2_parse_2 k))
def S_X2_readValue_3 : CL := [(0, 4, 4), (0, 5, 0), (0, 5, 1), (0, 12, 5), (1, 12, 2)]
theorem fs_X7_value__X2_readValue_3 : ∀ x ∈ S_X7_value, x ∈ S_X2_readValue_3 := by decide
theorem fs_X6_addStep_3__X2_readValue_3 : ∀ x ∈ S_X6_addStep_3, x ∈ S_X2_readValue_3 := by decide
theorem fs_X7_advance__X2_readValue_3 : ∀ x ∈ S_X7_advance, x ∈ S_X2_readValue_3 := by decide
