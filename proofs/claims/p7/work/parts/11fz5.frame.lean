theorem fs_X2_fail__X2_readValue_3 : ∀ x ∈ S_X2_fail, x ∈ S_X2_readValue_3 := by decide
theorem w_f_X2_readValue_3 (h : HS) : pk (f_X2_readValue_3 h) (fun a => Fr S_X2_readValue_3 h a) := by
  unfold f_X2_readValue_3
  refine pk_ob2 (w_f_X7_value h) (fun r_1 h_1 k_1 => ?_)
  replace k_1 := Fr_trans (Fr_refl _ h) (Fr_mono fs_X7_value__X2_readValue_3 k_1)
  refine pk_if (fun _ => ?_) (fun _ => ?_)
  · refine pk_ob2 (w_f_X7_value h_1) (fun r_3 h_3 k_2 => ?_)
    replace k_2 := Fr_trans k_1 (Fr_mono fs_X7_value__X2_readValue_3 k_2)
    refine pk_ob1 (w_f_X6_addStep_3 h_3 r_3) (fun h_4 k_3 => ?_)
    replace k_3 := Fr_trans k_2 (Fr_mono fs_X6_addStep_3__X2_readValue_3 k_3)
    refine pk_ob1 (w_f_X7_advance h_4) (fun h_5 k_4 => ?_)
    replace k_4 := Fr_trans k_3 (Fr_mono fs_X7_advance__X2_readValue_3 k_4)
    exact pk_some k_4
  · refine pk_ob1 (w_f_X2_fail h_1 2) (fun h_6 k_5 => ?_)
    replace k_5 := Fr_trans k_1 (Fr_mono fs_X2_fail__X2_readValue_3 k_5)
    exact pk_some k_5
def S_X2_readName_3_31 : CL := [(0, 4, 4), (0, 12, 5), (1, 12, 2)]
theorem fs_X7_kind__X2_readName_3_31 : ∀ x ∈ S_X7_kind, x ∈ S_X2_readName_3_31 := by decide
theorem fs_X6_addStep_3__X2_readName_3_31 : ∀ x ∈ S_X6_addStep_3, x ∈ S_X2_readName_3_31 := by decide
theorem fs_X7_advance__X2_readName_3_31 : ∀ x ∈ S_X7_advance, x ∈ S_X2_readName_3_31 := by decide
theorem w_f_X2_readName_3_31 (h : HS) : pk (f_X2_readName_3_31 h) (fun a => Fr S_X2_readName_3_31 h a) := by
  unfold f_X2_readName_3_31
  refine pk_ob2 (w_f_X7_kind h) (fun r_6 h_6 k_1 => ?_)
  replace k_1 := Fr_trans (Fr_refl _ h) (Fr_mono fs_X7_kind__X2_readName_3_31 k_1)
  refine pk_ob1 (w_f_X6_addStep_3 h_6 ((10000 + r_6) - 29)) (fun h_7 k_2 => ?_)
  replace k_2 := Fr_trans k_1 (Fr_mono fs_X6_addStep_3__X2_readName_3_31 k_2)
  refine pk_ob1 (w_f_X7_advance h_7) (fun h_8 k_3 => ?_)
  replace k_3 := Fr_trans k_2 (Fr_mono fs_X7_advance__X2_readName_3_31 k_3)
  exact pk_some k_3
def S_X2_readName_3 : CL := [(0, 4, 4), (0, 5, 0), (0, 5, 1), (0, 12, 5), (1, 12, 2)]
theorem fs_X7_kind__X2_readName_3 : ∀ x ∈ S_X7_kind, x ∈ S_X2_readName_3 := by decide
theorem fs_X2_readName_3_31__X2_readName_3 : ∀ x ∈ S_X2_readName_3_31, x ∈ S_X2_readName_3 := by decide
theorem fs_X2_fail__X2_readName_3 : ∀ x ∈ S_X2_fail, x ∈ S_X2_readName_3 := by decide
theorem w_f_X2_readName_3 (h : HS) : pk (f_X2_readName_3 h) (fun a => Fr S_X2_readName_3 h a) := by
  unfold f_X2_readName_3
  refine pk_ob2 (w_f_X7_kind h) (fun r_1 h_1 k_1 => ?_)
  replace k_1 := Fr_trans (Fr_refl _ h) (Fr_mono fs_X7_kind__X2_readName_3 k_1)
  refine pk_if (fun _ => ?_) (fun _ => ?_)
  · exact pk_mono (w_f_X2_readName_3_31 h_1) (fun _ k => Fr_trans k_1 (Fr_mono fs_X2_readName_3_31__X2_readName_3 k))
  · refine pk_if (fun _ => ?_) (fun _ => ?_)
    · exact pk_mono (w_f_X2_readName_3_31 h_1) (fun _ k => Fr_trans k_1 (Fr_mono fs_X2_readName_3_31__X2_readName_3 k))
    · refine pk_if (fun _ => ?_) (fun _ => ?_)
      · exact pk_mono (w_f_X2_readName_3_31 h_1) (fun _ k => Fr_trans k_1 (Fr_mono fs_X2_readName_3_31__X2_readName_3 k))
      · refine pk_ob1 (w_f_X2_fail h_1 5) (fun h_5 k_2 => ?_)
        replace k_2 := Fr_trans k_1 (Fr_mono fs_X2_fail__X2_readName_3 k_2)
        exact pk_some k_2
def S_X2_readNumber_3_69 : CL := []
theorem w_f_X2_readNumber_3_69 (h : HS) : pk (f_X2_readNumber_3_69 h) (fun a => Fr S_X2_readNumber_3_69 h a) := by
  unfold f_X2_readNumber_3_69
  exact pk_some (Fr_refl _ h)
def S_X2_readNumber_3_43 : CL := [(0, 5, 0), (0, 5, 1)]
theorem fs_X2_fail__X2_readNumber_3_43 : ∀ x ∈ S_X2_fail, x ∈ S_X2_readNumber_3_43 := by decide
theorem fs_X2_readNumber_3_69__X2_readNumber_3_43 : ∀ x ∈ S_X2_readNumber_3_69, x ∈ S_X2_readNumber_3_43 := by decide
theorem w_f_X2_readNumber_3_43 (h : HS) : pk (f_X2_readNumber_3_43 h) (fun a => Fr S_X2_readNumber_3_43 h a) := by
  unfold f_X2_readNumber_3_43
  refine pk_ob1 (w_f_X2_fail h 2) (fun h_12 k_1 => ?_)
  replace k_1 := Fr_trans (Fr_refl _ h) (Fr_mono fs_X2_fail__X2_readNumber_3_43 k_1)
  exact pk_mono (w_f_X2_readNumber_3_69 h_12) (fun _ k => Fr_trans k_1 (Fr_mono fs_X2_readNumber_3_69__X2_readNumber_3_43 k))
def S_X2_readNumber_3 : CL := [(0, 4, 4), (0, 5, 0), (0, 5, 1), (1, 12, 0)]
theorem fs_X7_kind__X2_readNumber_3 : ∀ x ∈ S_X7_kind, x ∈ S_X2_readNumber_3 := by decide
theorem fs_X7_value__X2_readNumber_3 : ∀ x ∈ S_X7_value, x ∈ S_X2_readNumber_3 := by decide
theorem fs_X2_readNumber_3_43__X2_readNumber_3 : ∀ x ∈ S_X2_readNumber_3_43, x ∈ S_X2_readNumber_3 := by decide
theorem fs_X6_setClause_3__X2_readNumber_3 : ∀ x ∈ S_X6_setClause_3, x ∈ S_X2_readNumber_3 := by decide
theorem fs_X7_advance__X2_readNumber_3 : ∀ x ∈ S_X7_advance, x ∈ S_X2_readNumber_3 := by decide
theorem fs_X2_readNumber_3_69__X2_readNumber_3 : ∀ x ∈ S_X2_readNumber_3_69, x ∈ S_X2_readNumber_3 := by decide
theorem fs_X2_fail__X2_readNumber_3 : ∀ x ∈ S_X2_fail, x ∈ S_X2_readNumber_3 := by decide
theorem w_f_X2_readNumber_3 (h : HS) (p1 : Int32) (p2 : Int32) (p3 : Int32) : pk (f_X2_readNumber_3 h p1 p2 p3) (fun a => Fr S_X2_readNumber_3 h a) := by
  unfold f_X2_readNumber_3
  refine pk_if (fun _ => ?_) (fun _ => ?_)
  · refine pk_ob2 (w_f_X7_kind h) (fun r_2 h_2 k_1 => ?_)
    replace k_1 := Fr_trans (Fr_refl _ h) (Fr_mono fs_X7_kind__X2_readNumber_3 k_1)
    refine pk_if (fun _ => ?_) (fun _ => ?_)
    · refine pk_ob2 (w_f_X7_value h_2) (fun r_4 h_4 k_2 => ?_)
      replace k_2 := Fr_trans k_1 (Fr_mono fs_X7_value__X2_readNumber_3 k_2)
      refine pk_if (fun _ => ?_) (fun _ => ?_)
      · exact pk_mono (w_f_X2_readNumber_3_43 h_4) (fun _ k => Fr_trans k_2 (Fr_mono fs_X2_readNumber_3_43__X2_readNumber_3 k))
      · refine pk_ob2 (w_f_X7_value h_4) (fun r_6 h_6 k_3 => ?_)
        replace k_3 := Fr_trans k_2 (Fr_mono fs_X7_value__X2_readNumber_3 k_3)
        refine pk_if (fun _ => ?_) (fun _ => ?_)
        · refine pk_ob2 (w_f_X7_value h_6) (fun r_8 h_8 k_4 => ?_)
          replace k_4 := Fr_trans k_3 (Fr_mono fs_X7_value__X2_readNumber_3 k_4)
          refine pk_ob1 (w_f_X6_setClause_3 h_8 (eI h_6 12 1) p1 r_8) (fun h_9 k_5 => ?_)
          replace k_5 := Fr_trans k_4 (Fr_mono fs_X6_setClause_3__X2_readNumber_3 k_5)
          refine pk_ob1 (w_f_X7_advance h_9) (fun h_10 k_6 => ?_)
          replace k_6 := Fr_trans k_5 (Fr_mono fs_X7_advance__X2_readNumber_3 k_6)
          exact pk_mono (w_f_X2_readNumber_3_69 h_10) (fun _ k => Fr_trans k_6 (Fr_mono fs_X2_readNumber_3_69__X2_readNumber_3 k))
        · exact pk_mono (w_f_X2_readNumber_3_43 h_6) (fun _ k => Fr_trans k_3 (Fr_mono fs_X2_readNumber_3_43__X2_readNumber_3 k))
    · refine pk_ob1 (w_f_X2_fail h_2 1) (fun h_11 k_7 => ?_)
      replace k_7 := Fr_trans k_1 (Fr_mono fs_X2_fail__X2_readNumber_3 k_7)
      exact pk_mono (w_f_X2_readNumber_3_69 h_11) (fun _ k => Fr_trans k_7 (Fr_mono fs_X2_readNumber_3_69__X2_readNumber_3 k))
  · exact pk_some (Fr_refl _ h)
def S_X2_readDeed_3_90 : CL := []
theorem w_f_X2_readDeed_3_90 (h : HS) : pk (f_X2_readDeed_3_90 h) (fun a => Fr S_X2_readDeed_3_90 h a) := by
  unfold f_X2_readDeed_3_90
  exact pk_some (Fr_refl _ h)
def S_X2_readDeed_3 : CL := [(0, 4, 4), (0, 5, 0), (0, 5, 1), (1, 12, 0)]
theorem fs_X2_readNumber_3__X2_readDeed_3 : ∀ x ∈ S_X2_readNumber_3, x ∈ S_X2_readDeed_3 := by decide
theorem fs_X2_expect__X2_readDeed_3 : ∀ x ∈ S_X2_expect, x ∈ S_X2_readDeed_3 := by decide
theorem fs_X2_readDeed_3_90__X2_readDeed_3 : ∀ x ∈ S_X2_readDeed_3_90, x ∈ S_X2_readDeed_3 := by decide
theorem w_f_X2_readDeed_3 (h : HS) (p1 : Int32) : pk (f_X2_readDeed_3 h p1) (fun a => Fr S_X2_readDeed_3 h a) := by
  unfold f_X2_readDeed_3
  refine pk_if (fun _ => ?_) (fun _ => ?_)
  · refine pk_ob1 (w_f_X2_readNumber_3 h 1 1 99) (fun h_11 k_1 => ?_)
    replace k_1 := Fr_trans (Fr_refl _ h) (Fr_mono fs_X2_readNumber_3__X2_readDeed_3 k_1)
    exact pk_some k_1
  · refine pk_ob1 (w_f_X2_readNumber_3 h 1 0 9) (fun h_2 k_2 => ?_)
    replace k_2 := Fr_trans (Fr_refl _ h) (Fr_mono fs_X2_readNumber_3__X2_readDeed_3 k_2)
    refine pk_if (fun _ => ?_) (fun _ => ?_)
    · refine pk_ob1 (w_f_X2_expect h_2 24) (fun h_7 k_3 => ?_)
      replace k_3 := Fr_trans k_2 (Fr_mono fs_X2_expect__X2_readDeed_3 k_3)
      refine pk_ob1 (w_f_X2_readNumber_3 h_7 2 0 5) (fun h_8 k_4 => ?_)
      replace k_4 := Fr_trans k_3 (Fr_mono fs_X2_readNumber_3__X2_readDeed_3 k_4)
      refine pk_ob1 (w_f_X2_expect h_8 33) (fun h_9 k_5 => ?_)
      replace k_5 := Fr_trans k_4 (Fr_mono fs_X2_expect__X2_readDeed_3 k_5)
      refine pk_ob1 (w_f_X2_readNumber_3 h_9 3 0 2) (fun h_10 k_6 => ?_)
      replace k_6 := Fr_trans k_5 (Fr_mono fs_X2_readNumber_3__X2_readDeed_3 k_6)
      exact pk_mono (w_f_X2_readDeed_3_90 h_10) (fun _ k => Fr_trans k_6 (Fr_mono fs_X2_readDeed_3_90__X2_readDeed_3 k))
    · refine pk_if (fun _ => ?_) (fun _ => ?_)
      · refine pk_ob1 (w_f_X2_expect h_2 25) (fun h_5 k_7 => ?_)
        replace k_7 := Fr_trans k_2 (Fr_mono fs_X2_expect__X2_readDeed_3 k_7)
        refine pk_ob1 (w_f_X2_readNumber_3 h_5 2 0 3) (fun h_6 k_8 => ?_)
        replace k_8 := Fr_trans k_7 (Fr_mono fs_X2_readNumber_3__X2_readDeed_3 k_8)
        exact pk_mono (w_f_X2_readDeed_3_90 h_6) (fun _ k => Fr_trans k_8 (Fr_mono fs_X2_readDeed_3_90__X2_readDeed_3 k))
      · exact pk_mono (w_f_X2_readDeed_3_90 h_2) (fun _ k => Fr_trans k_2 (Fr_mono fs_X2_readDeed_3_90__X2_readDeed_3 k))
def S_read_3 : CL := [(0, 4, 4), (0, 5, 0), (0, 5, 1), (0, 12, 5), (1, 12, 2)]
theorem w_f_X2_readLevel_3_105 (kR_X2_readLevel : HS → Int32 → Int32 → Option HS) (hk_kR_X2_readLevel : ∀ (h : HS) (x0 : Int32) (x1 : Int32), pk (kR_X2_readLevel h x0 x1) (fun a => Fr S_read_3 h a)) (kR_X2_readAsk : HS → Int32 → Option HS) (hk_kR_X2_readAsk : ∀ (h : HS) (x0 : Int32), pk (kR_X2_readAsk h x0) (fun a => Fr S_read_3 h a)) (kR_X2_readOne : HS → Int32 → Option HS) (hk_kR_X2_readOne : ∀ (h : HS) (x0 : Int32), pk (kR_X2_readOne h x0) (fun a => Fr S_read_3 h a)) (h : HS) : pk (f_X2_readLevel_3_105 kR_X2_readLevel kR_X2_readAsk kR_X2_readOne h) (fun a => Fr S_read_3 h a) := by
  unfold f_X2_readLevel_3_105
  exact pk_some (Fr_refl _ h)
theorem fs_X7_kind__read_3 : ∀ x ∈ S_X7_kind, x ∈ S_read_3 := by decide
theorem fs_X7_advance__read_3 : ∀ x ∈ S_X7_advance, x ∈ S_read_3 := by decide
theorem fs_X6_addStep_3__read_3 : ∀ x ∈ S_X6_addStep_3, x ∈ S_read_3 := by decide
theorem w_f_X2_readLevel_3_42 (kR_X2_readLevel : HS → Int32 → Int32 → Option HS) (hk_kR_X2_readLevel : ∀ (h : HS) (x0 : Int32) (x1 : Int32), pk (kR_X2_readLevel h x0 x1) (fun a => Fr S_read_3 h a)) (kR_X2_readAsk : HS → Int32 → Option HS) (hk_kR_X2_readAsk : ∀ (h : HS) (x0 : Int32), pk (kR_X2_readAsk h x0) (fun a => Fr S_read_3 h a)) (kR_X2_readOne : HS → Int32 → Option HS) (hk_kR_X2_readOne : ∀ (h : HS) (x0 : Int32), pk (kR_X2_readOne h x0) (fun a => Fr S_read_3 h a)) : ∀ (n : Nat) (h : HS) (x3 : Int32) (x4 : Int32) (x5 : Int32), pk (f_X2_readLevel_3_42 kR_X2_readLevel kR_X2_readAsk kR_X2_readOne n h x3 x4 x5) (fun a => Fr S_read_3 h a) := by
  intro n
  induction n with
  | zero => intro h x3 x4 x5; exact pk_none
  | succ n ih =>
    intro h x3 x4 x5
    rw [f_X2_readLevel_3_42_s]
    refine pk_if (fun _ => ?_) (fun _ => ?_)
    · exact pk_mono (w_f_X2_readLevel_3_105 kR_X2_readLevel hk_kR_X2_readLevel kR_X2_readAsk hk_kR_X2_readAsk kR_X2_readOne hk_kR_X2_readOne h) (fun _ k => Fr_trans (Fr_refl _ h) k)
    · refine pk_if (fun _ => ?_) (fun _ => ?_)
      · refine pk_ob2 (w_f_X7_kind h) (fun r_8 h_8 k_1 => ?_)
        replace k_1 := Fr_trans (Fr_refl _ h) (Fr_mono fs_X7_kind__read_3 k_1)
        refine pk_obf (fun r_9 => ?_)
        refine pk_if (fun _ => ?_) (fun _ => ?_)
        · refine pk_ob2 (w_f_X7_kind h_8) (fun r_11 h_11 k_2 => ?_)
          replace k_2 := Fr_trans k_1 (Fr_mono fs_X7_kind__read_3 k_2)
          refine pk_ob1 (w_f_X7_advance h_11) (fun h_12 k_3 => ?_)
          replace k_3 := Fr_trans k_2 (Fr_mono fs_X7_advance__read_3 k_3)
          refine pk_ob1 (hk_kR_X2_readLevel h_12 (x3 + 1) x4) (fun h_13 k_4 => ?_)
          replace k_4 := Fr_trans k_3 k_4
          refine pk_ob1 (w_f_X6_addStep_3 h_13 (20000 + r_11)) (fun h_14 k_5 => ?_)
          replace k_5 := Fr_trans k_4 (Fr_mono fs_X6_addStep_3__read_3 k_5)
          exact pk_mono (ih h_14 x3 x4 (x5 + 1)) (fun _ k => Fr_trans k_5 k)
        · exact pk_mono (w_f_X2_readLevel_3_105 kR_X2_readLevel hk_kR_X2_readLevel kR_X2_readAsk hk_kR_X2_readAsk kR_X2_readOne hk_kR_X2_readOne h_8) (fun _ k => Fr_trans k_1 k)
      · exact pk_mono (w_f_X2_readLevel_3_105 kR_X2_readLevel hk_kR_X2_readLevel kR_X2_readAsk hk_kR_X2_readAsk kR_X2_readOne hk_kR_X2_readOne h) (fun _ k => Fr_trans (Fr_refl _ h) k)
theorem w_f_X2_readLevel_3_b (kR_X2_readLevel : HS → Int32 → Int32 → Option HS) (hk_kR_X2_readLevel : ∀ (h : HS) (x0 : Int32) (x1 : Int32), pk (kR_X2_readLevel h x0 x1) (fun a => Fr S_read_3 h a)) (kR_X2_readAsk : HS → Int32 → Option HS) (hk_kR_X2_readAsk : ∀ (h : HS) (x0 : Int32), pk (kR_X2_readAsk h x0) (fun a => Fr S_read_3 h a)) (kR_X2_readOne : HS → Int32 → Option HS) (hk_kR_X2_readOne : ∀ (h : HS) (x0 : Int32), pk (kR_X2_readOne h x0) (fun a => Fr S_read_3 h a)) (h : HS) (p1 : Int32) (p2 : Int32) : pk (f_X2_readLevel_3_b kR_X2_readLevel kR_X2_readAsk kR_X2_readOne h p1 p2) (fun a => Fr S_read_3 h a) := by
  unfold f_X2_readLevel_3_b
  refine pk_if (fun _ => ?_) (fun _ => ?_)
  · refine pk_ob1 (hk_kR_X2_readAsk h p2) (fun h_5 k_1 => ?_)
    replace k_1 := Fr_trans (Fr_refl _ h) k_1
    exact pk_some k_1
  · refine pk_if (fun _ => ?_) (fun _ => ?_)
    · refine pk_ob1 (hk_kR_X2_readOne h p2) (fun h_4 k_2 => ?_)
      replace k_2 := Fr_trans (Fr_refl _ h) k_2
      exact pk_some k_2
    · refine pk_ob1 (hk_kR_X2_readLevel h (p1 + 1) p2) (fun h_3 k_3 => ?_)
      replace k_3 := Fr_trans (Fr_refl _ h) k_3
      exact pk_mono (w_f_X2_readLevel_3_42 kR_X2_readLevel hk_kR_X2_readLevel kR_X2_readAsk hk_kR_X2_readAsk kR_X2_readOne hk_kR_X2_readOne 8589934592 h_3 p1 p2 0) (fun _ k => Fr_trans k_3 k)
theorem w_f_X2_readAsk_3_97 (kR_X2_readLevel : HS → Int32 → Int32 → Option HS) (hk_kR_X2_readLevel : ∀ (h : HS) (x0 : Int32) (x1 : Int32), pk (kR_X2_readLevel h x0 x1) (fun a => Fr S_read_3 h a)) (kR_X2_readAsk : HS → Int32 → Option HS) (hk_kR_X2_readAsk : ∀ (h : HS) (x0 : Int32), pk (kR_X2_readAsk h x0) (fun a => Fr S_read_3 h a)) (kR_X2_readOne : HS → Int32 → Option HS) (hk_kR_X2_readOne : ∀ (h : HS) (x0 : Int32), pk (kR_X2_readOne h x0) (fun a => Fr S_read_3 h a)) (h : HS) : pk (f_X2_readAsk_3_97 kR_X2_readLevel kR_X2_readAsk kR_X2_readOne h) (fun a => Fr S_read_3 h a) := by
  unfold f_X2_readAsk_3_97
  exact pk_some (Fr_refl _ h)
theorem w_f_X2_readAsk_3_68 (kR_X2_readLevel : HS → Int32 → Int32 → Option HS) (hk_kR_X2_readLevel : ∀ (h : HS) (x0 : Int32) (x1 : Int32), pk (kR_X2_readLevel h x0 x1) (fun a => Fr S_read_3 h a)) (kR_X2_readAsk : HS → Int32 → Option HS) (hk_kR_X2_readAsk : ∀ (h : HS) (x0 : Int32), pk (kR_X2_readAsk h x0) (fun a => Fr S_read_3 h a)) (kR_X2_readOne : HS → Int32 → Option HS) (hk_kR_X2_readOne : ∀ (h : HS) (x0 : Int32), pk (kR_X2_readOne h x0) (fun a => Fr S_read_3 h a)) (h : HS) (x3 : Int32) (x4 : Int32) : pk (f_X2_readAsk_3_68 kR_X2_readLevel kR_X2_readAsk kR_X2_readOne h x3 x4) (fun a => Fr S_read_3 h a) := by
  unfold f_X2_readAsk_3_68
  refine pk_if (fun _ => ?_) (fun _ => ?_)
  · refine pk_ob1 (w_f_X7_advance h) (fun h_13 k_1 => ?_)
    replace k_1 := Fr_trans (Fr_refl _ h) (Fr_mono fs_X7_advance__read_3 k_1)
    refine pk_ob1 (hk_kR_X2_readLevel h_13 3 x3) (fun h_14 k_2 => ?_)
    replace k_2 := Fr_trans k_1 k_2
    refine pk_ob1 (w_f_X6_addStep_3 h_14 (20000 + x4)) (fun h_15 k_3 => ?_)
    replace k_3 := Fr_trans k_2 (Fr_mono fs_X6_addStep_3__read_3 k_3)
    exact pk_mono (w_f_X2_readAsk_3_97 kR_X2_readLevel hk_kR_X2_readLevel kR_X2_readAsk hk_kR_X2_readAsk kR_X2_readOne hk_kR_X2_readOne h_15) (fun _ k => Fr_trans k_3 k)
  · exact pk_mono (w_f_X2_readAsk_3_97 kR_X2_readLevel hk_kR_X2_readLevel kR_X2_readAsk hk_kR_X2_readAsk kR_X2_readOne hk_kR_X2_readOne h) (fun _ k => Fr_trans (Fr_refl _ h) k)
theorem fs_X2_fail__read_3 : ∀ x ∈ S_X2_fail, x ∈ S_read_3 := by decide
theorem w_f_X2_readAsk_3_62 (kR_X2_readLevel : HS → Int32 → Int32 → Option HS) (hk_kR_X2_readLevel : ∀ (h : HS) (x0 : Int32) (x1 : Int32), pk (kR_X2_readLevel h x0 x1) (fun a => Fr S_read_3 h a)) (kR_X2_readAsk : HS → Int32 → Option HS) (hk_kR_X2_readAsk : ∀ (h : HS) (x0 : Int32), pk (kR_X2_readAsk h x0) (fun a => Fr S_read_3 h a)) (kR_X2_readOne : HS → Int32 → Option HS) (hk_kR_X2_readOne : ∀ (h : HS) (x0 : Int32), pk (kR_X2_readOne h x0) (fun a => Fr S_read_3 h a)) (h : HS) (x3 : Int32) (x4 : Int32) : pk (f_X2_readAsk_3_62 kR_X2_readLevel kR_X2_readAsk kR_X2_readOne h x3 x4) (fun a => Fr S_read_3 h a) := by
  unfold f_X2_readAsk_3_62
  refine pk_ob1 (w_f_X2_fail h 1) (fun h_11 k_1 => ?_)
  replace k_1 := Fr_trans (Fr_refl _ h) (Fr_mono fs_X2_fail__read_3 k_1)
  exact pk_mono (w_f_X2_readAsk_3_68 kR_X2_readLevel hk_kR_X2_readLevel kR_X2_readAsk hk_kR_X2_readAsk kR_X2_readOne hk_kR_X2_readOne h_11 x3 x4) (fun _ k => Fr_trans k_1 k)
theorem w_f_X2_readAsk_3_34 (kR_X2_readLevel : HS → Int32 → Int32 → Option HS) (hk_kR_X2_readLevel : ∀ (h : HS) (x0 : Int32) (x1 : Int32), pk (kR_X2_readLevel h x0 x1) (fun a => Fr S_read_3 h a)) (kR_X2_readAsk : HS → Int32 → Option HS) (hk_kR_X2_readAsk : ∀ (h : HS) (x0 : Int32), pk (kR_X2_readAsk h x0) (fun a => Fr S_read_3 h a)) (kR_X2_readOne : HS → Int32 → Option HS) (hk_kR_X2_readOne : ∀ (h : HS) (x0 : Int32), pk (kR_X2_readOne h x0) (fun a => Fr S_read_3 h a)) (h : HS) : pk (f_X2_readAsk_3_34 kR_X2_readLevel kR_X2_readAsk kR_X2_readOne h) (fun a => Fr S_read_3 h a) := by
  unfold f_X2_readAsk_3_34
  exact pk_some (Fr_refl _ h)
theorem fs_X2_opens__read_3 : ∀ x ∈ S_X2_opens, x ∈ S_read_3 := by decide
theorem w_f_X2_readAsk_3_b (kR_X2_readLevel : HS → Int32 → Int32 → Option HS) (hk_kR_X2_readLevel : ∀ (h : HS) (x0 : Int32) (x1 : Int32), pk (kR_X2_readLevel h x0 x1) (fun a => Fr S_read_3 h a)) (kR_X2_readAsk : HS → Int32 → Option HS) (hk_kR_X2_readAsk : ∀ (h : HS) (x0 : Int32), pk (kR_X2_readAsk h x0) (fun a => Fr S_read_3 h a)) (kR_X2_readOne : HS → Int32 → Option HS) (hk_kR_X2_readOne : ∀ (h : HS) (x0 : Int32), pk (kR_X2_readOne h x0) (fun a => Fr S_read_3 h a)) (h : HS) (p1 : Int32) : pk (f_X2_readAsk_3_b kR_X2_readLevel kR_X2_readAsk kR_X2_readOne h p1) (fun a => Fr S_read_3 h a) := by
  unfold f_X2_readAsk_3_b
  refine pk_ob2 (w_f_X7_kind h) (fun r_1 h_1 k_1 => ?_)
  replace k_1 := Fr_trans (Fr_refl _ h) (Fr_mono fs_X7_kind__read_3 k_1)
  refine pk_if (fun _ => ?_) (fun _ => ?_)
  · refine pk_ob2 (w_f_X2_opens h_1 p1) (fun r_7 h_7 k_2 => ?_)
    replace k_2 := Fr_trans k_1 (Fr_mono fs_X2_opens__read_3 k_2)
    refine pk_if (fun _ => ?_) (fun _ => ?_)
    · exact pk_mono (w_f_X2_readAsk_3_34 kR_X2_readLevel hk_kR_X2_readLevel kR_X2_readAsk hk_kR_X2_readAsk kR_X2_readOne hk_kR_X2_readOne h_7) (fun _ k => Fr_trans k_2 k)
    · refine pk_ob1 (hk_kR_X2_readAsk h_7 (p1 + 1)) (fun h_9 k_3 => ?_)
      replace k_3 := Fr_trans k_2 k_3
      refine pk_ob1 (w_f_X6_addStep_3 h_9 20028) (fun h_10 k_4 => ?_)
      replace k_4 := Fr_trans k_3 (Fr_mono fs_X6_addStep_3__read_3 k_4)
      exact pk_mono (w_f_X2_readAsk_3_34 kR_X2_readLevel hk_kR_X2_readLevel kR_X2_readAsk hk_kR_X2_readAsk kR_X2_readOne hk_kR_X2_readOne h_10) (fun _ k => Fr_trans k_4 k)
  · refine pk_ob1 (hk_kR_X2_readLevel h_1 3 p1) (fun h_3 k_5 => ?_)
    replace k_5 := Fr_trans k_1 k_5
    refine pk_ob2 (w_f_X7_kind h_3) (fun r_4 h_4 k_6 => ?_)
    replace k_6 := Fr_trans k_5 (Fr_mono fs_X7_kind__read_3 k_6)
    refine pk_if (fun _ => ?_) (fun _ => ?_)
    · exact pk_mono (w_f_X2_readAsk_3_62 kR_X2_readLevel hk_kR_X2_readLevel kR_X2_readAsk hk_kR_X2_readAsk kR_X2_readOne hk_kR_X2_readOne h_4 p1 r_4) (fun _ k => Fr_trans k_6 k)
    · refine pk_if (fun _ => ?_) (fun _ => ?_)
      · exact pk_mono (w_f_X2_readAsk_3_68 kR_X2_readLevel hk_kR_X2_readLevel kR_X2_readAsk hk_kR_X2_readAsk kR_X2_readOne hk_kR_X2_readOne h_4 p1 r_4) (fun _ k => Fr_trans k_6 k)
      · exact pk_mono (w_f_X2_readAsk_3_62 kR_X2_readLevel hk_kR_X2_readLevel kR_X2_readAsk hk_kR_X2_readAsk kR_X2_readOne hk_kR_X2_readOne h_4 p1 r_4) (fun _ k => Fr_trans k_6 k)
theorem w_f_X2_readOne_3_121 (kR_X2_readLevel : HS → Int32 → Int32 → Option HS) (hk_kR_X2_readLevel : ∀ (h : HS) (x0 : Int32) (x1 : Int32), pk (kR_X2_readLevel h x0 x1) (fun a => Fr S_read_3 h a)) (kR_X2_readAsk : HS → Int32 → Option HS) (hk_kR_X2_readAsk : ∀ (h : HS) (x0 : Int32), pk (kR_X2_readAsk h x0) (fun a => Fr S_read_3 h a)) (kR_X2_readOne : HS → Int32 → Option HS) (hk_kR_X2_readOne : ∀ (h : HS) (x0 : Int32), pk (kR_X2_readOne h x0) (fun a => Fr S_read_3 h a)) (h : HS) : pk (f_X2_readOne_3_121 kR_X2_readLevel kR_X2_readAsk kR_X2_readOne h) (fun a => Fr S_read_3 h a) := by
  unfold f_X2_readOne_3_121
  exact pk_some (Fr_refl _ h)
theorem fs_X2_expect__read_3 : ∀ x ∈ S_X2_expect, x ∈ S_read_3 := by decide
theorem w_f_X2_readOne_3_44 (kR_X2_readLevel : HS → Int32 → Int32 → Option HS) (hk_kR_X2_readLevel : ∀ (h : HS) (x0 : Int32) (x1 : Int32), pk (kR_X2_readLevel h x0 x1) (fun a => Fr S_read_3 h a)) (kR_X2_readAsk : HS → Int32 → Option HS) (hk_kR_X2_readAsk : ∀ (h : HS) (x0 : Int32), pk (kR_X2_readAsk h x0) (fun a => Fr S_read_3 h a)) (kR_X2_readOne : HS → Int32 → Option HS) (hk_kR_X2_readOne : ∀ (h : HS) (x0 : Int32), pk (kR_X2_readOne h x0) (fun a => Fr S_read_3 h a)) (h : HS) (x3 : Int32) (x4 : Int32) : pk (f_X2_readOne_3_44 kR_X2_readLevel kR_X2_readAsk kR_X2_readOne h x3 x4) (fun a => Fr S_read_3 h a) := by
  unfold f_X2_readOne_3_44
  refine pk_if (fun _ => ?_) (fun _ => ?_)
  · refine pk_ob2 (w_f_X2_opens h x3) (fun r_14 h_14 k_1 => ?_)
    replace k_1 := Fr_trans (Fr_refl _ h) (Fr_mono fs_X2_opens__read_3 k_1)
    refine pk_if (fun _ => ?_) (fun _ => ?_)
    · exact pk_mono (w_f_X2_readOne_3_121 kR_X2_readLevel hk_kR_X2_readLevel kR_X2_readAsk hk_kR_X2_readAsk kR_X2_readOne hk_kR_X2_readOne h_14) (fun _ k => Fr_trans k_1 k)
    · refine pk_ob1 (hk_kR_X2_readLevel h_14 3 (x3 + 1)) (fun h_16 k_2 => ?_)
      replace k_2 := Fr_trans k_1 k_2
      refine pk_ob1 (w_f_X2_expect h_16 14) (fun h_17 k_3 => ?_)
      replace k_3 := Fr_trans k_2 (Fr_mono fs_X2_expect__read_3 k_3)
      exact pk_mono (w_f_X2_readOne_3_121 kR_X2_readLevel hk_kR_X2_readLevel kR_X2_readAsk hk_kR_X2_readAsk kR_X2_readOne hk_kR_X2_readOne h_17) (fun _ k => Fr_trans k_3 k)
  · refine pk_if (fun _ => ?_) (fun _ => ?_)
    · refine pk_ob2 (w_f_X2_opens h x3) (fun r_10 h_10 k_4 => ?_)
      replace k_4 := Fr_trans (Fr_refl _ h) (Fr_mono fs_X2_opens__read_3 k_4)
      refine pk_if (fun _ => ?_) (fun _ => ?_)
      · exact pk_mono (w_f_X2_readOne_3_121 kR_X2_readLevel hk_kR_X2_readLevel kR_X2_readAsk hk_kR_X2_readAsk kR_X2_readOne hk_kR_X2_readOne h_10) (fun _ k => Fr_trans k_4 k)
      · refine pk_ob1 (hk_kR_X2_readOne h_10 (x3 + 1)) (fun h_12 k_5 => ?_)
        replace k_5 := Fr_trans k_4 k_5
        refine pk_ob1 (w_f_X6_addStep_3 h_12 20038) (fun h_13 k_6 => ?_)
        replace k_6 := Fr_trans k_5 (Fr_mono fs_X6_addStep_3__read_3 k_6)
        exact pk_mono (w_f_X2_readOne_3_121 kR_X2_readLevel hk_kR_X2_readLevel kR_X2_readAsk hk_kR_X2_readAsk kR_X2_readOne hk_kR_X2_readOne h_13) (fun _ k => Fr_trans k_6 k)
    · refine pk_ob1 (w_f_X2_fail h 1) (fun h_9 k_7 => ?_)
      replace k_7 := Fr_trans (Fr_refl _ h) (Fr_mono fs_X2_fail__read_3 k_7)
      exact pk_mono (w_f_X2_readOne_3_121 kR_X2_readLevel hk_kR_X2_readLevel kR_X2_readAsk hk_kR_X2_readAsk kR_X2_readOne hk_kR_X2_readOne h_9) (fun _ k => Fr_trans k_7 k)
theorem fs_X2_readValue_3__read_3 : ∀ x ∈ S_X2_readValue_3, x ∈ S_read_3 := by decide
theorem fs_X2_readName_3__read_3 : ∀ x ∈ S_X2_readName_3, x ∈ S_read_3 := by decide
theorem w_f_X2_readOne_3_b (kR_X2_readLevel : HS → Int32 → Int32 → Option HS) (hk_kR_X2_readLevel : ∀ (h : HS) (x0 : Int32) (x1 : Int32), pk (kR_X2_readLevel h x0 x1) (fun a => Fr S_read_3 h a)) (kR_X2_readAsk : HS → Int32 → Option HS) (hk_kR_X2_readAsk : ∀ (h : HS) (x0 : Int32), pk (kR_X2_readAsk h x0) (fun a => Fr S_read_3 h a)) (kR_X2_readOne : HS → Int32 → Option HS) (hk_kR_X2_readOne : ∀ (h : HS) (x0 : Int32), pk (kR_X2_readOne h x0) (fun a => Fr S_read_3 h a)) (h : HS) (p1 : Int32) : pk (f_X2_readOne_3_b kR_X2_readLevel kR_X2_readAsk kR_X2_readOne h p1) (fun a => Fr S_read_3 h a) := by
  unfold f_X2_readOne_3_b
  refine pk_ob2 (w_f_X7_kind h) (fun r_1 h_1 k_1 => ?_)
  replace k_1 := Fr_trans (Fr_refl _ h) (Fr_mono fs_X7_kind__read_3 k_1)
  refine pk_if (fun _ => ?_) (fun _ => ?_)
  · refine pk_ob1 (w_f_X2_readValue_3 h_1) (fun h_6 k_2 => ?_)
    replace k_2 := Fr_trans k_1 (Fr_mono fs_X2_readValue_3__read_3 k_2)
    exact pk_mono (w_f_X2_readOne_3_121 kR_X2_readLevel hk_kR_X2_readLevel kR_X2_readAsk hk_kR_X2_readAsk kR_X2_readOne hk_kR_X2_readOne h_6) (fun _ k => Fr_trans k_2 k)
  · refine pk_if (fun _ => ?_) (fun _ => ?_)
    · exact pk_mono (w_f_X2_readOne_3_44 kR_X2_readLevel hk_kR_X2_readLevel kR_X2_readAsk hk_kR_X2_readAsk kR_X2_readOne hk_kR_X2_readOne h_1 p1 r_1) (fun _ k => Fr_trans k_1 k)
    · refine pk_if (fun _ => ?_) (fun _ => ?_)
      · exact pk_mono (w_f_X2_readOne_3_44 kR_X2_readLevel hk_kR_X2_readLevel kR_X2_readAsk hk_kR_X2_readAsk kR_X2_readOne hk_kR_X2_readOne h_1 p1 r_1) (fun _ k => Fr_trans k_1 k)
      · refine pk_ob1 (w_f_X2_readName_3 h_1) (fun h_5 k_3 => ?_)
        replace k_3 := Fr_trans k_1 (Fr_mono fs_X2_readName_3__read_3 k_3)
        exact pk_mono (w_f_X2_readOne_3_121 kR_X2_readLevel hk_kR_X2_readLevel kR_X2_readAsk hk_kR_X2_readAsk kR_X2_readOne hk_kR_X2_readOne h_5) (fun _ k => Fr_trans k_3 k)
theorem w_G_read_3 : ∀ (n t : Nat) (h : HS) (p1 p2 : Int32), pk (G_read_3 n t h p1 p2) (fun a => Fr S_read_3 h a) := by
  intro n
  induction n with
  | zero => intro t h p1 p2; exact (by simp [G_read_3]; exact pk_none)
  | succ n ih =>
    intro t h p1 p2
    match t with
    | 0 => exact w_f_X2_readLevel_3_b (fun h p1 p2 => G_read_3 n 0 h p1 p2) (fun h p1 p2 => ih 0 h p1 p2) (fun h p1 => G_read_3 n 1 h p1 0) (fun h p1 => ih 1 h p1 0) (fun h p1 => G_read_3 n 2 h p1 0) (fun h p1 => ih 2 h p1 0) h p1 p2
    | 1 => exact w_f_X2_readAsk_3_b (fun h p1 p2 => G_read_3 n 0 h p1 p2) (fun h p1 p2 => ih 0 h p1 p2) (fun h p1 => G_read_3 n 1 h p1 0) (fun h p1 => ih 1 h p1 0) (fun h p1 => G_read_3 n 2 h p1 0) (fun h p1 => ih 2 h p1 0) h p1
    | t + 2 => exact w_f_X2_readOne_3_b (fun h p1 p2 => G_read_3 n 0 h p1 p2) (fun h p1 p2 => ih 0 h p1 p2) (fun h p1 => G_read_3 n 1 h p1 0) (fun h p1 => ih 1 h p1 0) (fun h p1 => G_read_3 n 2 h p1 0) (fun h p1 => ih 2 h p1 0) h p1
def S_X2_readClause_3_158 : CL := []
theorem w_f_X2_readClause_3_158 (h : HS) : pk (f_X2_readClause_3_158 h) (fun a => Fr S_X2_readClause_3_158 h a) := by
  unfold f_X2_readClause_3_158
  exact pk_some (Fr_refl _ h)
def S_X2_readClause_3_25 : CL := [(0, 5, 0), (0, 5, 1)]
theorem fs_X2_fail__X2_readClause_3_25 : ∀ x ∈ S_X2_fail, x ∈ S_X2_readClause_3_25 := by decide
theorem fs_X2_readClause_3_158__X2_readClause_3_25 : ∀ x ∈ S_X2_readClause_3_158, x ∈ S_X2_readClause_3_25 := by decide
theorem w_f_X2_readClause_3_25 (h : HS) : pk (f_X2_readClause_3_25 h) (fun a => Fr S_X2_readClause_3_25 h a) := by
  unfold f_X2_readClause_3_25
  refine pk_ob1 (w_f_X2_fail h 1) (fun h_15 k_1 => ?_)
  replace k_1 := Fr_trans (Fr_refl _ h) (Fr_mono fs_X2_fail__X2_readClause_3_25 k_1)
  exact pk_mono (w_f_X2_readClause_3_158 h_15) (fun _ k => Fr_trans k_1 (Fr_mono fs_X2_readClause_3_158__X2_readClause_3_25 k))
def S_X2_readClause_3_141 : CL := [(0, 4, 4), (0, 5, 0), (0, 5, 1), (0, 12, 1)]
theorem fm_X2_readClause_3_141_0_12_1 : (0, 12, 1) ∈ S_X2_readClause_3_141 := by decide
theorem fs_X2_expect__X2_readClause_3_141 : ∀ x ∈ S_X2_expect, x ∈ S_X2_readClause_3_141 := by decide
theorem fs_X2_readClause_3_158__X2_readClause_3_141 : ∀ x ∈ S_X2_readClause_3_158, x ∈ S_X2_readClause_3_141 := by decide
theorem w_f_X2_readClause_3_141 (h : HS) : pk (f_X2_readClause_3_141 h) (fun a => Fr S_X2_readClause_3_141 h a) := by
  unfold f_X2_readClause_3_141
  refine pk_ob1 (w_f_X2_expect h 15) (fun h_16 k_1 => ?_)
  replace k_1 := Fr_trans (Fr_refl _ h) (Fr_mono fs_X2_expect__X2_readClause_3_141 k_1)
  exact pk_mono (w_f_X2_readClause_3_158 (sI h_16 12 1 ((eI h_16 12 1) + 1))) (fun _ k => Fr_trans (Fr_sI fm_X2_readClause_3_141_0_12_1 k_1) (Fr_mono fs_X2_readClause_3_158__X2_readClause_3_141 k))
def S_X2_readClause_3_119 : CL := [(0, 4, 4), (0, 5, 0), (0, 5, 1), (0, 12, 1), (0, 12, 5), (1, 12, 2), (1, 12, 4)]
theorem fs_read_3__X2_readClause_3_119 : ∀ x ∈ S_read_3, x ∈ S_X2_readClause_3_119 := by decide
theorem fs_X6_closeLaw_3__X2_readClause_3_119 : ∀ x ∈ S_X6_closeLaw_3, x ∈ S_X2_readClause_3_119 := by decide
theorem fs_X2_readClause_3_141__X2_readClause_3_119 : ∀ x ∈ S_X2_readClause_3_141, x ∈ S_X2_readClause_3_119 := by decide
theorem w_f_X2_readClause_3_119 (h : HS) (y0 : Int32) : pk (f_X2_readClause_3_119 h y0) (fun a => Fr S_X2_readClause_3_119 h a) := by
  unfold f_X2_readClause_3_119
  refine pk_ob1 (w_G_read_3 200 0 h y0 0) (fun h_17 k_1 => ?_)
  replace k_1 := Fr_trans (Fr_refl _ h) (Fr_mono fs_read_3__X2_readClause_3_119 k_1)
  refine pk_ob1 (w_f_X6_closeLaw_3 h_17 (eI h_17 5 2)) (fun h_18 k_2 => ?_)
  replace k_2 := Fr_trans k_1 (Fr_mono fs_X6_closeLaw_3__X2_readClause_3_119 k_2)
  exact pk_mono (w_f_X2_readClause_3_141 h_18) (fun _ k => Fr_trans k_2 (Fr_mono fs_X2_readClause_3_141__X2_readClause_3_119 k))
def S_X2_readClause_3 : CL := [(0, 4, 4), (0, 5, 0), (0, 5, 1), (0, 5, 2), (0, 12, 1), (0, 12, 5), (1, 12, 0), (1, 12, 2), (1, 12, 3), (1, 12, 4)]
theorem fm_X2_readClause_3_0_5_2 : (0, 5, 2) ∈ S_X2_readClause_3 := by decide
theorem fs_X7_kind__X2_readClause_3 : ∀ x ∈ S_X7_kind, x ∈ S_X2_readClause_3 := by decide
theorem fs_X2_readClause_3_25__X2_readClause_3 : ∀ x ∈ S_X2_readClause_3_25, x ∈ S_X2_readClause_3 := by decide
theorem fs_X6_hasLaw_3__X2_readClause_3 : ∀ x ∈ S_X6_hasLaw_3, x ∈ S_X2_readClause_3 := by decide
theorem fs_X6_setClause_3__X2_readClause_3 : ∀ x ∈ S_X6_setClause_3, x ∈ S_X2_readClause_3 := by decide
theorem fs_X7_advance__X2_readClause_3 : ∀ x ∈ S_X7_advance, x ∈ S_X2_readClause_3 := by decide
theorem fs_X2_readDeed_3__X2_readClause_3 : ∀ x ∈ S_X2_readDeed_3, x ∈ S_X2_readClause_3 := by decide
theorem fs_X2_readClause_3_141__X2_readClause_3 : ∀ x ∈ S_X2_readClause_3_141, x ∈ S_X2_readClause_3 := by decide
theorem fs_X6_beginLaw_3__X2_readClause_3 : ∀ x ∈ S_X6_beginLaw_3, x ∈ S_X2_readClause_3 := by decide
theorem fs_X2_readClause_3_119__X2_readClause_3 : ∀ x ∈ S_X2_readClause_3_119, x ∈ S_X2_readClause_3 := by decide
theorem fs_X2_fail__X2_readClause_3 : ∀ x ∈ S_X2_fail, x ∈ S_X2_readClause_3 := by decide
theorem fs_X2_readClause_3_158__X2_readClause_3 : ∀ x ∈ S_X2_readClause_3_158, x ∈ S_X2_readClause_3 := by decide
theorem w_f_X2_readClause_3 (h : HS) : pk (f_X2_readClause_3 h) (fun a => Fr S_X2_readClause_3 h a) := by
  unfold f_X2_readClause_3
  refine pk_ob2 (w_f_X7_kind h) (fun r_1 h_1 k_1 => ?_)
  replace k_1 := Fr_trans (Fr_refl _ h) (Fr_mono fs_X7_kind__X2_readClause_3 k_1)
  refine pk_if (fun _ => ?_) (fun _ => ?_)
  · exact pk_mono (w_f_X2_readClause_3_25 (sI h_1 5 2 (r_1 - 16))) (fun _ k => Fr_trans (Fr_sI fm_X2_readClause_3_0_5_2 k_1) (Fr_mono fs_X2_readClause_3_25__X2_readClause_3 k))
  · refine pk_if (fun _ => ?_) (fun _ => ?_)
    · refine pk_ob2 (w_f_X6_hasLaw_3 (sI h_1 5 2 (r_1 - 16)) (r_1 - 16)) (fun r_4 h_4 k_2 => ?_)
      replace k_2 := Fr_trans (Fr_sI fm_X2_readClause_3_0_5_2 k_1) (Fr_mono fs_X6_hasLaw_3__X2_readClause_3 k_2)
      refine pk_if (fun _ => ?_) (fun _ => ?_)
      · refine pk_if (fun _ => ?_) (fun _ => ?_)
        · refine pk_ob1 (w_f_X6_setClause_3 h_4 (eI h_4 12 1) 0 r_1) (fun h_7 k_3 => ?_)
          replace k_3 := Fr_trans k_2 (Fr_mono fs_X6_setClause_3__X2_readClause_3 k_3)
          refine pk_ob1 (w_f_X7_advance h_7) (fun h_8 k_4 => ?_)
          replace k_4 := Fr_trans k_3 (Fr_mono fs_X7_advance__X2_readClause_3 k_4)
          refine pk_if (fun _ => ?_) (fun _ => ?_)
          · refine pk_ob1 (w_f_X2_readDeed_3 h_8 r_1) (fun h_10 k_5 => ?_)
            replace k_5 := Fr_trans k_4 (Fr_mono fs_X2_readDeed_3__X2_readClause_3 k_5)
            exact pk_mono (w_f_X2_readClause_3_141 h_10) (fun _ k => Fr_trans k_5 (Fr_mono fs_X2_readClause_3_141__X2_readClause_3 k))
          · refine pk_ob1 (w_f_X6_beginLaw_3 h_8 (eI h_8 5 2)) (fun h_11 k_6 => ?_)
            replace k_6 := Fr_trans k_4 (Fr_mono fs_X6_beginLaw_3__X2_readClause_3 k_6)
            refine pk_if (fun _ => ?_) (fun _ => ?_)
            · exact pk_mono (w_f_X2_readClause_3_119 h_11 0) (fun _ k => Fr_trans k_6 (Fr_mono fs_X2_readClause_3_119__X2_readClause_3 k))
            · exact pk_mono (w_f_X2_readClause_3_119 h_11 3) (fun _ k => Fr_trans k_6 (Fr_mono fs_X2_readClause_3_119__X2_readClause_3 k))
        · refine pk_ob1 (w_f_X2_fail h_4 6) (fun h_13 k_7 => ?_)
          replace k_7 := Fr_trans k_2 (Fr_mono fs_X2_fail__X2_readClause_3 k_7)
          exact pk_mono (w_f_X2_readClause_3_158 h_13) (fun _ k => Fr_trans k_7 (Fr_mono fs_X2_readClause_3_158__X2_readClause_3 k))
      · refine pk_ob1 (w_f_X2_fail h_4 4) (fun h_14 k_8 => ?_)
        replace k_8 := Fr_trans k_2 (Fr_mono fs_X2_fail__X2_readClause_3 k_8)
        exact pk_mono (w_f_X2_readClause_3_158 h_14) (fun _ k => Fr_trans k_8 (Fr_mono fs_X2_readClause_3_158__X2_readClause_3 k))
    · exact pk_mono (w_f_X2_readClause_3_25 (sI h_1 5 2 (r_1 - 16))) (fun _ k => Fr_trans (Fr_sI fm_X2_readClause_3_0_5_2 k_1) (Fr_mono fs_X2_readClause_3_25__X2_readClause_3 k))
def S_X2_parse_3_48 : CL := []
theorem w_f_X2_parse_3_48 (h : HS) : pk (f_X2_parse_3_48 h) (fun a => Fr S_X2_parse_3_48 h a) := by
  unfold f_X2_parse_3_48
  exact pk_some (Fr_refl _ h)
def S_X2_parse_3_16 : CL := [(0, 4, 4), (0, 5, 0), (0, 5, 1), (0, 5, 2), (0, 12, 1), (0, 12, 5), (1, 12, 0), (1, 12, 2), (1, 12, 3), (1, 12, 4)]
theorem fs_X2_parse_3_48__X2_parse_3_16 : ∀ x ∈ S_X2_parse_3_48, x ∈ S_X2_parse_3_16 := by decide
theorem fs_X7_kind__X2_parse_3_16 : ∀ x ∈ S_X7_kind, x ∈ S_X2_parse_3_16 := by decide
theorem fs_X2_readClause_3__X2_parse_3_16 : ∀ x ∈ S_X2_readClause_3, x ∈ S_X2_parse_3_16 := by decide
theorem w_f_X2_parse_3_16  : ∀ (n : Nat) (h : HS) (x3 : Int32), pk (f_X2_parse_3_16  n h x3) (fun a => Fr S_X2_parse_3_16 h a) := by
  intro n
  induction n with
  | zero => intro h x3; exact pk_none
  | succ n ih =>
    intro h x3
    rw [f_X2_parse_3_16_s]
    refine pk_if (fun _ => ?_) (fun _ => ?_)
    · exact pk_mono (w_f_X2_parse_3_48 h) (fun _ k => Fr_trans (Fr_refl _ h) (Fr_mono fs_X2_parse_3_48__X2_parse_3_16 k))
    · refine pk_if (fun _ => ?_) (fun _ => ?_)
      · refine pk_ob2 (w_f_X7_kind h) (fun r_4 h_4 k_1 => ?_)
        replace k_1 := Fr_trans (Fr_refl _ h) (Fr_mono fs_X7_kind__X2_parse_3_16 k_1)
        refine pk_if (fun _ => ?_) (fun _ => ?_)
        · exact pk_mono (w_f_X2_parse_3_48 h_4) (fun _ k => Fr_trans k_1 (Fr_mono fs_X2_parse_3_48__X2_parse_3_16 k))
        · refine pk_ob1 (w_f_X2_readClause_3 h_4) (fun h_6 k_2 => ?_)
          replace k_2 := Fr_trans k_1 (Fr_mono fs_X2_readClause_3__X2_parse_3_16 k_2)
          exact pk_mono (ih h_6 (x3 + 1)) (fun _ k => Fr_trans k_2 k)
      · exact pk_mono (w_f_X2_parse_3_48 h) (fun _ k => Fr_trans (Fr_refl _ h) (Fr_mono fs_X2_parse_3_48__X2_parse_3_16 k))
def S_X2_parse_3 : CL := [(0, 4, 4), (0, 5, 0), (0, 5, 1), (0, 5, 2), (0, 12, 1), (0, 12, 5), (1, 12, 0), (1, 12, 2), (1, 12, 3), (1, 12, 4)]
theorem fm_X2_parse_3_0_5_1 : (0, 5, 1) ∈ S_X2_parse_3 := by decide
theorem fm_X2_parse_3_0_5_0 : (0, 5, 0) ∈ S_X2_parse_3 := by decide
theorem fs_X6_clear_3__X2_parse_3 : ∀ x ∈ S_X6_clear_3, x ∈ S_X2_parse_3 := by decide
theorem fs_X2_parse_3_16__X2_parse_3 : ∀ x ∈ S_X2_parse_3_16, x ∈ S_X2_parse_3 := by decide
theorem w_f_X2_parse_3 (h : HS) : pk (f_X2_parse_3 h) (fun a => Fr S_X2_parse_3 h a) := by
  unfold f_X2_parse_3
  refine pk_ob1 (w_f_X6_clear_3 (sI (sI h 5 0 0) 5 1 (-1))) (fun h_1 k_1 => ?_)
  replace k_1 := Fr_trans (Fr_sI fm_X2_parse_3_0_5_1 (Fr_sI fm_X2_parse_3_0_5_0 (Fr_refl _ h))) (Fr_mono fs_X6_clear_3__X2_parse_3 k_1)
  exact pk_mono (w_f_X2_parse_3_16 8589934592 h_1 0) (fun _ k => Fr_trans k_1 (Fr_mono fs_X2_parse_3_16__X2_parse_3 k))
def S_X8_market_25 : CL := []
theorem w_f_X8_market_25 (h : HS) : pk (f_X8_market_25 h) (fun a => Fr S_X8_market_25 h a.2) := by
  unfold f_X8_market_25
  exact pk_some (Fr_refl _ h)
def S_X8_market : CL := [(0, 1, 4), (1, 1, 1)]
theorem fs_X8_market_25__X8_market : ∀ x ∈ S_X8_market_25, x ∈ S_X8_market := by decide
theorem fs_X4_addMarket__X8_market : ∀ x ∈ S_X4_addMarket, x ∈ S_X8_market := by decide
theorem w_f_X8_market (h : HS) (p1 : Int32) (p2 : Int32) (p3 : Int32) : pk (f_X8_market h p1 p2 p3) (fun a => Fr S_X8_market h a.2) := by
  unfold f_X8_market
  refine pk_if (fun _ => ?_) (fun _ => ?_)
  · exact pk_mono (w_f_X8_market_25 h) (fun _ k => Fr_trans (Fr_refl _ h) (Fr_mono fs_X8_market_25__X8_market k))
  · refine pk_if (fun _ => ?_) (fun _ => ?_)
    · exact pk_mono (w_f_X8_market_25 h) (fun _ k => Fr_trans (Fr_refl _ h) (Fr_mono fs_X8_market_25__X8_market k))
    · refine pk_obf (fun r_3 => ?_)
      refine pk_if (fun _ => ?_) (fun _ => ?_)
      · exact pk_mono (w_f_X8_market_25 h) (fun _ k => Fr_trans (Fr_refl _ h) (Fr_mono fs_X8_market_25__X8_market k))
      · refine pk_obf (fun r_5 => ?_)
        refine pk_if (fun _ => ?_) (fun _ => ?_)
        · exact pk_mono (w_f_X8_market_25 h) (fun _ k => Fr_trans (Fr_refl _ h) (Fr_mono fs_X8_market_25__X8_market k))
        · refine pk_ob2 (w_f_X4_addMarket h p1 p2 p3) (fun r_7 h_7 k_1 => ?_)
          replace k_1 := Fr_trans (Fr_refl _ h) (Fr_mono fs_X4_addMarket__X8_market k_1)
          exact pk_some k_1
def S_X8_goose_21 : CL := []
theorem w_f_X8_goose_21 (h : HS) : pk (f_X8_goose_21 h) (fun a => Fr S_X8_goose_21 h a.2) := by
  unfold f_X8_goose_21
  exact pk_some (Fr_refl _ h)
def S_X8_goose : CL := [(0, 1, 3), (1, 1, 0)]
theorem fs_X8_goose_21__X8_goose : ∀ x ∈ S_X8_goose_21, x ∈ S_X8_goose := by decide
theorem fs_X4_addGoose__X8_goose : ∀ x ∈ S_X4_addGoose, x ∈ S_X8_goose := by decide
theorem w_f_X8_goose (h : HS) (p1 : Int32) (p2 : Int32) : pk (f_X8_goose h p1 p2) (fun a => Fr S_X8_goose h a.2) := by
  unfold f_X8_goose
  refine pk_if (fun _ => ?_) (fun _ => ?_)
  · exact pk_mono (w_f_X8_goose_21 h) (fun _ k => Fr_trans (Fr_refl _ h) (Fr_mono fs_X8_goose_21__X8_goose k))
  · refine pk_if (fun _ => ?_) (fun _ => ?_)
    · exact pk_mono (w_f_X8_goose_21 h) (fun _ k => Fr_trans (Fr_refl _ h) (Fr_mono fs_X8_goose_21__X8_goose k))
    · refine pk_if (fun _ => ?_) (fun _ => ?_)
      · exact pk_mono (w_f_X8_goose_21 h) (fun _ k => Fr_trans (Fr_refl _ h) (Fr_mono fs_X8_goose_21__X8_goose k))
      · refine pk_if (fun _ => ?_) (fun _ => ?_)
        · refine pk_ob2 (w_f_X4_addGoose h p1 p2) (fun r_5 h_5 k_1 => ?_)
          replace k_1 := Fr_trans (Fr_refl _ h) (Fr_mono fs_X4_addGoose__X8_goose k_1)
          exact pk_some k_1
        · exact pk_mono (w_f_X8_goose_21 h) (fun _ k => Fr_trans (Fr_refl _ h) (Fr_mono fs_X8_goose_21__X8_goose k))
def S_X8_store_21 : CL := []
theorem w_f_X8_store_21 (h : HS) : pk (f_X8_store_21 h) (fun a => Fr S_X8_store_21 h a.2) := by
  unfold f_X8_store_21
  exact pk_some (Fr_refl _ h)
def S_X8_store : CL := [(0, 1, 5), (0, 1, 6)]
theorem fm_X8_store_0_1_6 : (0, 1, 6) ∈ S_X8_store := by decide
theorem fm_X8_store_0_1_5 : (0, 1, 5) ∈ S_X8_store := by decide
theorem fs_X8_store_21__X8_store : ∀ x ∈ S_X8_store_21, x ∈ S_X8_store := by decide
theorem w_f_X8_store (h : HS) (p1 : Int32) (p2 : Int32) : pk (f_X8_store h p1 p2) (fun a => Fr S_X8_store h a.2) := by
  unfold f_X8_store
  refine pk_if (fun _ => ?_) (fun _ => ?_)
  · exact pk_mono (w_f_X8_store_21 h) (fun _ k => Fr_trans (Fr_refl _ h) (Fr_mono fs_X8_store_21__X8_store k))
  · refine pk_if (fun _ => ?_) (fun _ => ?_)
    · exact pk_mono (w_f_X8_store_21 h) (fun _ k => Fr_trans (Fr_refl _ h) (Fr_mono fs_X8_store_21__X8_store k))
    · refine pk_if (fun _ => ?_) (fun _ => ?_)
      · exact pk_mono (w_f_X8_store_21 h) (fun _ k => Fr_trans (Fr_refl _ h) (Fr_mono fs_X8_store_21__X8_store k))
      · refine pk_if (fun _ => ?_) (fun _ => ?_)
        · exact pk_some (Fr_sI fm_X8_store_0_1_6 (Fr_sI fm_X8_store_0_1_5 (Fr_refl _ h)))
        · exact pk_mono (w_f_X8_store_21 h) (fun _ k => Fr_trans (Fr_refl _ h) (Fr_mono fs_X8_store_21__X8_store k))
def S_X8_seed_11 : CL := []
theorem w_f_X8_seed_11 (h : HS) : pk (f_X8_seed_11 h) (fun a => Fr S_X8_seed_11 h a.2) := by
  unfold f_X8_seed_11
  exact pk_some (Fr_refl _ h)
def S_X8_seed : CL := [(0, 1, 8)]
theorem fm_X8_seed_0_1_8 : (0, 1, 8) ∈ S_X8_seed := by decide
theorem fs_X8_seed_11__X8_seed : ∀ x ∈ S_X8_seed_11, x ∈ S_X8_seed := by decide
theorem w_f_X8_seed (h : HS) (p1 : Int32) : pk (f_X8_seed h p1) (fun a => Fr S_X8_seed h a.2) := by
  unfold f_X8_seed
  refine pk_if (fun _ => ?_) (fun _ => ?_)
  · exact pk_mono (w_f_X8_seed_11 h) (fun _ k => Fr_trans (Fr_refl _ h) (Fr_mono fs_X8_seed_11__X8_seed k))
  · refine pk_if (fun _ => ?_) (fun _ => ?_)
    · exact pk_some (Fr_sI fm_X8_seed_0_1_8 (Fr_refl _ h))
    · exact pk_mono (w_f_X8_seed_11 h) (fun _ k => Fr_trans (Fr_refl _ h) (Fr_mono fs_X8_seed_11__X8_seed k))
def S_X8_fill_32 : CL := []
theorem w_f_X8_fill_32 (h : HS) : pk (f_X8_fill_32 h) (fun a => Fr S_X8_fill_32 h a.2) := by
  unfold f_X8_fill_32
  exact pk_some (Fr_refl _ h)
def S_X8_fill : CL := [(0, 1, 5), (0, 1, 11), (0, 1, 12), (0, 6, 3), (1, 1, 0), (1, 1, 2), (1, 6, 1), (1, 6, 2)]
theorem fm_X8_fill_0_1_5 : (0, 1, 5) ∈ S_X8_fill := by decide
theorem fs_X8_fill_32__X8_fill : ∀ x ∈ S_X8_fill_32, x ∈ S_X8_fill := by decide
theorem fs_X4_isHome__X8_fill : ∀ x ∈ S_X4_isHome, x ∈ S_X8_fill := by decide
theorem fs_X4_ofGoose__X8_fill : ∀ x ∈ S_X4_ofGoose, x ∈ S_X8_fill := by decide
theorem fs_X1_inkCost__X8_fill : ∀ x ∈ S_X1_inkCost, x ∈ S_X8_fill := by decide
theorem fs_X4_keepStep__X8_fill : ∀ x ∈ S_X4_keepStep, x ∈ S_X8_fill := by decide
theorem fs_X4_setGoose__X8_fill : ∀ x ∈ S_X4_setGoose, x ∈ S_X8_fill := by decide
theorem w_f_X8_fill (h : HS) (p1 : Int32) (p2 : Int32) (p3 : Int32) : pk (f_X8_fill h p1 p2 p3) (fun a => Fr S_X8_fill h a.2) := by
  unfold f_X8_fill
  refine pk_obf (fun r_1 => ?_)
  refine pk_if (fun _ => ?_) (fun _ => ?_)
  · exact pk_mono (w_f_X8_fill_32 h) (fun _ k => Fr_trans (Fr_refl _ h) (Fr_mono fs_X8_fill_32__X8_fill k))
  · refine pk_ob2 (w_f_X4_isHome h p1) (fun r_3 h_3 k_1 => ?_)
    replace k_1 := Fr_trans (Fr_refl _ h) (Fr_mono fs_X4_isHome__X8_fill k_1)
    refine pk_if (fun _ => ?_) (fun _ => ?_)
    · exact pk_mono (w_f_X8_fill_32 h_3) (fun _ k => Fr_trans k_1 (Fr_mono fs_X8_fill_32__X8_fill k))
    · refine pk_ob2 (w_f_X4_ofGoose h_3 p1 2) (fun r_5 h_5 k_2 => ?_)
      replace k_2 := Fr_trans k_1 (Fr_mono fs_X4_ofGoose__X8_fill k_2)
      refine pk_if (fun _ => ?_) (fun _ => ?_)
      · refine pk_ob2 (w_f_X1_inkCost h_5 p1 p2 p3) (fun r_7 h_7 k_3 => ?_)
        replace k_3 := Fr_trans k_2 (Fr_mono fs_X1_inkCost__X8_fill k_3)
        refine pk_if (fun _ => ?_) (fun _ => ?_)
        · refine pk_ob1 (w_f_X4_keepStep h_7) (fun h_9 k_4 => ?_)
          replace k_4 := Fr_trans k_3 (Fr_mono fs_X4_keepStep__X8_fill k_4)
          refine pk_ob1 (w_f_X4_setGoose (sI h_9 1 5 ((eI h_9 1 5) - r_7)) p1 2 p2) (fun h_10 k_5 => ?_)
          replace k_5 := Fr_trans (Fr_sI fm_X8_fill_0_1_5 k_4) (Fr_mono fs_X4_setGoose__X8_fill k_5)
          refine pk_ob1 (w_f_X4_setGoose h_10 p1 3 p3) (fun h_11 k_6 => ?_)
          replace k_6 := Fr_trans k_5 (Fr_mono fs_X4_setGoose__X8_fill k_6)
          exact pk_some k_6
        · exact pk_some k_3
      · exact pk_mono (w_f_X8_fill_32 h_5) (fun _ k => Fr_trans k_2 (Fr_mono fs_X8_fill_32__X8_fill k))
def S_X8_send_22 : CL := []
theorem w_f_X8_send_22 (h : HS) : pk (f_X8_send_22 h) (fun a => Fr S_X8_send_22 h a.2) := by
  unfold f_X8_send_22
  exact pk_some (Fr_refl _ h)
def S_X8_send : CL := [(0, 1, 11), (0, 1, 12), (1, 1, 0), (1, 1, 2)]
theorem fs_X4_hasMarket__X8_send : ∀ x ∈ S_X4_hasMarket, x ∈ S_X8_send := by decide
theorem fs_X8_send_22__X8_send : ∀ x ∈ S_X8_send_22, x ∈ S_X8_send := by decide
theorem fs_X4_isFree__X8_send : ∀ x ∈ S_X4_isFree, x ∈ S_X8_send := by decide
theorem fs_X4_keepStep__X8_send : ∀ x ∈ S_X4_keepStep, x ∈ S_X8_send := by decide
theorem fs_X4_ofMarket__X8_send : ∀ x ∈ S_X4_ofMarket, x ∈ S_X8_send := by decide
theorem fs_X4_setGoose__X8_send : ∀ x ∈ S_X4_setGoose, x ∈ S_X8_send := by decide
theorem w_f_X8_send (h : HS) (p1 : Int32) (p2 : Int32) : pk (f_X8_send h p1 p2) (fun a => Fr S_X8_send h a.2) := by
  unfold f_X8_send
  refine pk_ob2 (w_f_X4_hasMarket h p2) (fun r_1 h_1 k_1 => ?_)
  replace k_1 := Fr_trans (Fr_refl _ h) (Fr_mono fs_X4_hasMarket__X8_send k_1)
  refine pk_if (fun _ => ?_) (fun _ => ?_)
  · exact pk_mono (w_f_X8_send_22 h_1) (fun _ k => Fr_trans k_1 (Fr_mono fs_X8_send_22__X8_send k))
  · refine pk_ob2 (w_f_X4_isFree h_1 p1) (fun r_3 h_3 k_2 => ?_)
    replace k_2 := Fr_trans k_1 (Fr_mono fs_X4_isFree__X8_send k_2)
    refine pk_if (fun _ => ?_) (fun _ => ?_)
    · exact pk_mono (w_f_X8_send_22 h_3) (fun _ k => Fr_trans k_2 (Fr_mono fs_X8_send_22__X8_send k))
    · refine pk_ob1 (w_f_X4_keepStep h_3) (fun h_5 k_3 => ?_)
      replace k_3 := Fr_trans k_2 (Fr_mono fs_X4_keepStep__X8_send k_3)
      refine pk_ob2 (w_f_X4_ofMarket h_5 p2 0) (fun r_6 h_6 k_4 => ?_)
      replace k_4 := Fr_trans k_3 (Fr_mono fs_X4_ofMarket__X8_send k_4)
      refine pk_ob1 (w_f_X4_setGoose h_6 p1 4 1) (fun h_7 k_5 => ?_)
      replace k_5 := Fr_trans k_4 (Fr_mono fs_X4_setGoose__X8_send k_5)
      refine pk_ob1 (w_f_X4_setGoose h_7 p1 5 p2) (fun h_8 k_6 => ?_)
      replace k_6 := Fr_trans k_5 (Fr_mono fs_X4_setGoose__X8_send k_6)
      refine pk_ob1 (w_f_X4_setGoose h_8 p1 6 ((eI h_5 1 7) + r_6)) (fun h_9 k_7 => ?_)
      replace k_7 := Fr_trans k_6 (Fr_mono fs_X4_setGoose__X8_send k_7)
      exact pk_some k_7
def S_X8_fatten_36 : CL := []
theorem w_f_X8_fatten_36 (h : HS) : pk (f_X8_fatten_36 h) (fun a => Fr S_X8_fatten_36 h a.2) := by
  unfold f_X8_fatten_36
  exact pk_some (Fr_refl _ h)
def S_X8_fatten : CL := [(0, 1, 5), (0, 1, 11), (0, 1, 12), (1, 1, 0), (1, 1, 2)]
theorem fm_X8_fatten_0_1_5 : (0, 1, 5) ∈ S_X8_fatten := by decide
theorem fs_X4_isHome__X8_fatten : ∀ x ∈ S_X4_isHome, x ∈ S_X8_fatten := by decide
theorem fs_X8_fatten_36__X8_fatten : ∀ x ∈ S_X8_fatten_36, x ∈ S_X8_fatten := by decide
theorem fs_X4_ofGoose__X8_fatten : ∀ x ∈ S_X4_ofGoose, x ∈ S_X8_fatten := by decide
theorem fs_X4_keepStep__X8_fatten : ∀ x ∈ S_X4_keepStep, x ∈ S_X8_fatten := by decide
theorem fs_X4_setGoose__X8_fatten : ∀ x ∈ S_X4_setGoose, x ∈ S_X8_fatten := by decide
theorem w_f_X8_fatten (h : HS) (p1 : Int32) : pk (f_X8_fatten h p1) (fun a => Fr S_X8_fatten h a.2) := by
  unfold f_X8_fatten
  refine pk_ob2 (w_f_X4_isHome h p1) (fun r_1 h_1 k_1 => ?_)
  replace k_1 := Fr_trans (Fr_refl _ h) (Fr_mono fs_X4_isHome__X8_fatten k_1)
  refine pk_if (fun _ => ?_) (fun _ => ?_)
  · exact pk_mono (w_f_X8_fatten_36 h_1) (fun _ k => Fr_trans k_1 (Fr_mono fs_X8_fatten_36__X8_fatten k))
  · refine pk_ob2 (w_f_X4_ofGoose h_1 p1 0) (fun r_3 h_3 k_2 => ?_)
    replace k_2 := Fr_trans k_1 (Fr_mono fs_X4_ofGoose__X8_fatten k_2)
    refine pk_if (fun _ => ?_) (fun _ => ?_)
    · exact pk_mono (w_f_X8_fatten_36 h_3) (fun _ k => Fr_trans k_2 (Fr_mono fs_X8_fatten_36__X8_fatten k))
    · refine pk_if (fun _ => ?_) (fun _ => ?_)
      · refine pk_ob1 (w_f_X4_keepStep h_3) (fun h_6 k_3 => ?_)
        replace k_3 := Fr_trans k_2 (Fr_mono fs_X4_keepStep__X8_fatten k_3)
        refine pk_ob2 (w_f_X4_ofGoose (sI h_6 1 5 ((eI h_6 1 5) - 1)) p1 0) (fun r_7 h_7 k_4 => ?_)
        replace k_4 := Fr_trans (Fr_sI fm_X8_fatten_0_1_5 k_3) (Fr_mono fs_X4_ofGoose__X8_fatten k_4)
        refine pk_ob1 (w_f_X4_setGoose h_7 p1 0 (r_7 + 1)) (fun h_8 k_5 => ?_)
        replace k_5 := Fr_trans k_4 (Fr_mono fs_X4_setGoose__X8_fatten k_5)
        refine pk_ob2 (w_f_X4_ofGoose h_8 p1 0) (fun r_9 h_9 k_6 => ?_)
        replace k_6 := Fr_trans k_5 (Fr_mono fs_X4_ofGoose__X8_fatten k_6)
        exact pk_some k_6
      · exact pk_mono (w_f_X8_fatten_36 h_3) (fun _ k => Fr_trans k_2 (Fr_mono fs_X8_fatten_36__X8_fatten k))
def S_X8_pluck_24 : CL := []
theorem w_f_X8_pluck_24 (h : HS) : pk (f_X8_pluck_24 h) (fun a => Fr S_X8_pluck_24 h a.2) := by
  unfold f_X8_pluck_24
  exact pk_some (Fr_refl _ h)
def S_X8_pluck : CL := [(0, 1, 11), (0, 1, 12), (1, 1, 0), (1, 1, 2)]
theorem fs_X4_isHome__X8_pluck : ∀ x ∈ S_X4_isHome, x ∈ S_X8_pluck := by decide
theorem fs_X8_pluck_24__X8_pluck : ∀ x ∈ S_X8_pluck_24, x ∈ S_X8_pluck := by decide
theorem fs_X4_ofGoose__X8_pluck : ∀ x ∈ S_X4_ofGoose, x ∈ S_X8_pluck := by decide
theorem fs_X4_keepStep__X8_pluck : ∀ x ∈ S_X4_keepStep, x ∈ S_X8_pluck := by decide
theorem fs_X4_setGoose__X8_pluck : ∀ x ∈ S_X4_setGoose, x ∈ S_X8_pluck := by decide
theorem w_f_X8_pluck (h : HS) (p1 : Int32) : pk (f_X8_pluck h p1) (fun a => Fr S_X8_pluck h a.2) := by
  unfold f_X8_pluck
  refine pk_ob2 (w_f_X4_isHome h p1) (fun r_1 h_1 k_1 => ?_)
  replace k_1 := Fr_trans (Fr_refl _ h) (Fr_mono fs_X4_isHome__X8_pluck k_1)
  refine pk_if (fun _ => ?_) (fun _ => ?_)
  · exact pk_mono (w_f_X8_pluck_24 h_1) (fun _ k => Fr_trans k_1 (Fr_mono fs_X8_pluck_24__X8_pluck k))
  · refine pk_ob2 (w_f_X4_ofGoose h_1 p1 1) (fun r_3 h_3 k_2 => ?_)
    replace k_2 := Fr_trans k_1 (Fr_mono fs_X4_ofGoose__X8_pluck k_2)
    refine pk_if (fun _ => ?_) (fun _ => ?_)
    · refine pk_ob1 (w_f_X4_keepStep h_3) (fun h_5 k_3 => ?_)
      replace k_3 := Fr_trans k_2 (Fr_mono fs_X4_keepStep__X8_pluck k_3)
      refine pk_ob2 (w_f_X4_ofGoose h_5 p1 1) (fun r_6 h_6 k_4 => ?_)
      replace k_4 := Fr_trans k_3 (Fr_mono fs_X4_ofGoose__X8_pluck k_4)
      refine pk_ob1 (w_f_X4_setGoose h_6 p1 1 (r_6 - 1)) (fun h_7 k_5 => ?_)
      replace k_5 := Fr_trans k_4 (Fr_mono fs_X4_setGoose__X8_pluck k_5)
      refine pk_ob2 (w_f_X4_ofGoose h_7 p1 1) (fun r_8 h_8 k_6 => ?_)
      replace k_6 := Fr_trans k_5 (Fr_mono fs_X4_ofGoose__X8_pluck k_6)
      exact pk_some k_6
    · exact pk_mono (w_f_X8_pluck_24 h_3) (fun _ k => Fr_trans k_2 (Fr_mono fs_X8_pluck_24__X8_pluck k))
def S_X8_name : CL := [(0, 1, 11), (0, 1, 12), (1, 1, 0), (1, 1, 2)]
theorem fs_X4_isFree__X8_name : ∀ x ∈ S_X4_isFree, x ∈ S_X8_name := by decide
theorem fs_X4_keepStep__X8_name : ∀ x ∈ S_X4_keepStep, x ∈ S_X8_name := by decide
theorem fs_X4_setGoose__X8_name : ∀ x ∈ S_X4_setGoose, x ∈ S_X8_name := by decide
theorem w_f_X8_name (h : HS) (p1 : Int32) : pk (f_X8_name h p1) (fun a => Fr S_X8_name h a.2) := by
  unfold f_X8_name
  refine pk_ob2 (w_f_X4_isFree h p1) (fun r_1 h_1 k_1 => ?_)
  replace k_1 := Fr_trans (Fr_refl _ h) (Fr_mono fs_X4_isFree__X8_name k_1)
  refine pk_if (fun _ => ?_) (fun _ => ?_)
  · exact pk_some k_1
  · refine pk_ob1 (w_f_X4_keepStep h_1) (fun h_3 k_2 => ?_)
    replace k_2 := Fr_trans k_1 (Fr_mono fs_X4_keepStep__X8_name k_2)
    refine pk_ob1 (w_f_X4_setGoose h_3 p1 8 1) (fun h_4 k_3 => ?_)
    replace k_3 := Fr_trans k_2 (Fr_mono fs_X4_setGoose__X8_name k_3)
    exact pk_some k_3
def S_X8_fateAtMarket_78 : CL := []
theorem w_f_X8_fateAtMarket_78 (h : HS) (y0 : Int32) : pk (f_X8_fateAtMarket_78 h y0) (fun a => Fr S_X8_fateAtMarket_78 h a.2) := by
  unfold f_X8_fateAtMarket_78
  exact pk_some (Fr_refl _ h)
def S_X8_fateAtMarket : CL := [(0, 1, 8), (0, 6, 3), (1, 6, 1), (1, 6, 2)]
theorem fs_X1_lookAtTraveller__X8_fateAtMarket : ∀ x ∈ S_X1_lookAtTraveller, x ∈ S_X8_fateAtMarket := by decide
theorem fs_X4_draw__X8_fateAtMarket : ∀ x ∈ S_X4_draw, x ∈ S_X8_fateAtMarket := by decide
theorem fs_X1_rule__X8_fateAtMarket : ∀ x ∈ S_X1_rule, x ∈ S_X8_fateAtMarket := by decide
theorem fs_X4_ofGoose__X8_fateAtMarket : ∀ x ∈ S_X4_ofGoose, x ∈ S_X8_fateAtMarket := by decide
theorem fs_X8_fateAtMarket_78__X8_fateAtMarket : ∀ x ∈ S_X8_fateAtMarket_78, x ∈ S_X8_fateAtMarket := by decide
theorem w_f_X8_fateAtMarket (h : HS) (p1 : Int32) : pk (f_X8_fateAtMarket h p1) (fun a => Fr S_X8_fateAtMarket h a.2) := by
  unfold f_X8_fateAtMarket
  refine pk_ob1 (w_f_X1_lookAtTraveller h p1) (fun h_1 k_1 => ?_)
  replace k_1 := Fr_trans (Fr_refl _ h) (Fr_mono fs_X1_lookAtTraveller__X8_fateAtMarket k_1)
  refine pk_ob2 (w_f_X4_draw h_1) (fun r_2 h_2 k_2 => ?_)
  replace k_2 := Fr_trans k_1 (Fr_mono fs_X4_draw__X8_fateAtMarket k_2)
  refine pk_ob2 (w_f_X1_rule h_2 0) (fun r_3 h_3 k_3 => ?_)
  replace k_3 := Fr_trans k_2 (Fr_mono fs_X1_rule__X8_fateAtMarket k_3)
  refine pk_if (fun _ => ?_) (fun _ => ?_)
  · refine pk_ob2 (w_f_X4_ofGoose h_3 p1 2) (fun r_5 h_5 k_4 => ?_)
    replace k_4 := Fr_trans k_3 (Fr_mono fs_X4_ofGoose__X8_fateAtMarket k_4)
    refine pk_if (fun _ => ?_) (fun _ => ?_)
    · exact pk_some k_4
    · refine pk_ob2 (w_f_X4_draw h_5) (fun r_7 h_7 k_5 => ?_)
      replace k_5 := Fr_trans k_4 (Fr_mono fs_X4_draw__X8_fateAtMarket k_5)
      refine pk_ob2 (w_f_X1_rule h_7 1) (fun r_8 h_8 k_6 => ?_)
      replace k_6 := Fr_trans k_5 (Fr_mono fs_X1_rule__X8_fateAtMarket k_6)
      refine pk_if (fun _ => ?_) (fun _ => ?_)
      · exact pk_mono (w_f_X8_fateAtMarket_78 h_8 3) (fun _ k => Fr_trans k_6 (Fr_mono fs_X8_fateAtMarket_78__X8_fateAtMarket k))
      · exact pk_mono (w_f_X8_fateAtMarket_78 h_8 4) (fun _ k => Fr_trans k_6 (Fr_mono fs_X8_fateAtMarket_78__X8_fateAtMarket k))
  · exact pk_some k_3
def S_X8_passOneDay_15 : CL := [(0, 1, 5), (0, 1, 8), (0, 6, 3), (1, 1, 0), (1, 6, 1), (1, 6, 2)]
theorem w_f_X8_passOneDay_72 (k15 : HS → Int32 → Option HS) (hk_k15 : ∀ (h : HS) (x0 : Int32), pk (k15 h x0) (fun a => Fr S_X8_passOneDay_15 h a)) (h : HS) (x1 : Int32) : pk (f_X8_passOneDay_72 k15 h x1) (fun a => Fr S_X8_passOneDay_15 h a) := by
  unfold f_X8_passOneDay_72
  exact pk_mono (hk_k15 h (x1 + 1)) (fun _ k => Fr_trans (Fr_refl _ h) k)
theorem fs_X4_eatDaily__X8_passOneDay_15 : ∀ x ∈ S_X4_eatDaily, x ∈ S_X8_passOneDay_15 := by decide
theorem fs_X4_ofGoose__X8_passOneDay_15 : ∀ x ∈ S_X4_ofGoose, x ∈ S_X8_passOneDay_15 := by decide
theorem fs_X8_fateAtMarket__X8_passOneDay_15 : ∀ x ∈ S_X8_fateAtMarket, x ∈ S_X8_passOneDay_15 := by decide
theorem fs_X4_settle__X8_passOneDay_15 : ∀ x ∈ S_X4_settle, x ∈ S_X8_passOneDay_15 := by decide
theorem w_f_X8_passOneDay_15  : ∀ (n : Nat) (h : HS) (x1 : Int32), pk (f_X8_passOneDay_15  n h x1) (fun a => Fr S_X8_passOneDay_15 h a) := by
  intro n
  induction n with
  | zero => intro h x1; exact pk_none
  | succ n ih =>
    intro h x1
    rw [f_X8_passOneDay_15_s]
    refine pk_if (fun _ => ?_) (fun _ => ?_)
    · refine pk_ob1 (w_f_X4_eatDaily h) (fun h_2 k_1 => ?_)
      replace k_1 := Fr_trans (Fr_refl _ h) (Fr_mono fs_X4_eatDaily__X8_passOneDay_15 k_1)
      exact pk_some k_1
    · refine pk_ob2 (w_f_X4_ofGoose h x1 4) (fun r_3 h_3 k_2 => ?_)
      replace k_2 := Fr_trans (Fr_refl _ h) (Fr_mono fs_X4_ofGoose__X8_passOneDay_15 k_2)
      refine pk_if (fun _ => ?_) (fun _ => ?_)
      · refine pk_ob2 (w_f_X4_ofGoose h_3 x1 6) (fun r_5 h_5 k_3 => ?_)
        replace k_3 := Fr_trans k_2 (Fr_mono fs_X4_ofGoose__X8_passOneDay_15 k_3)
        refine pk_if (fun _ => ?_) (fun _ => ?_)
        · refine pk_ob2 (w_f_X8_fateAtMarket h_5 x1) (fun r_7 h_7 k_4 => ?_)
          replace k_4 := Fr_trans k_3 (Fr_mono fs_X8_fateAtMarket__X8_passOneDay_15 k_4)
          refine pk_ob1 (w_f_X4_settle h_7 x1 r_7) (fun h_8 k_5 => ?_)
          replace k_5 := Fr_trans k_4 (Fr_mono fs_X4_settle__X8_passOneDay_15 k_5)
          exact pk_mono (w_f_X8_passOneDay_72 (f_X8_passOneDay_15 n) ih h_8 x1) (fun _ k => Fr_trans k_5 k)
        · exact pk_mono (w_f_X8_passOneDay_72 (f_X8_passOneDay_15 n) ih h_5 x1) (fun _ k => Fr_trans k_3 k)
      · exact pk_mono (w_f_X8_passOneDay_72 (f_X8_passOneDay_15 n) ih h_3 x1) (fun _ k => Fr_trans k_2 k)
def S_X8_passOneDay : CL := [(0, 1, 5), (0, 1, 7), (0, 1, 8), (0, 6, 3), (1, 1, 0), (1, 6, 1), (1, 6, 2)]
theorem fm_X8_passOneDay_0_1_7 : (0, 1, 7) ∈ S_X8_passOneDay := by decide
theorem fs_X8_passOneDay_15__X8_passOneDay : ∀ x ∈ S_X8_passOneDay_15, x ∈ S_X8_passOneDay := by decide
theorem w_f_X8_passOneDay (h : HS) : pk (f_X8_passOneDay h) (fun a => Fr S_X8_passOneDay h a) := by
  unfold f_X8_passOneDay
  exact pk_mono (w_f_X8_passOneDay_15 8589934592 (sI h 1 7 ((eI h 1 7) + 1)) 0) (fun _ k => Fr_trans (Fr_sI fm_X8_passOneDay_0_1_7 (Fr_refl _ h)) (Fr_mono fs_X8_passOneDay_15__X8_passOneDay k))
def S_X8_pass_26 : CL := []
theorem w_f_X8_pass_26 (h : HS) : pk (f_X8_pass_26 h) (fun a => Fr S_X8_pass_26 h a.2) := by
  unfold f_X8_pass_26
  exact pk_some (Fr_refl _ h)
def S_X8_pass_37 : CL := [(0, 1, 5), (0, 1, 7), (0, 1, 8), (0, 6, 3), (1, 1, 0), (1, 6, 1), (1, 6, 2)]
theorem fs_X8_passOneDay__X8_pass_37 : ∀ x ∈ S_X8_passOneDay, x ∈ S_X8_pass_37 := by decide
theorem w_f_X8_pass_37  : ∀ (n : Nat) (h : HS) (x1 : Int32) (x2 : Int32), pk (f_X8_pass_37  n h x1 x2) (fun a => Fr S_X8_pass_37 h a.2) := by
  intro n
  induction n with
  | zero => intro h x1 x2; exact pk_none
  | succ n ih =>
    intro h x1 x2
    rw [f_X8_pass_37_s]
    refine pk_if (fun _ => ?_) (fun _ => ?_)
    · exact pk_some (Fr_refl _ h)
    · refine pk_ob1 (w_f_X8_passOneDay h) (fun h_6 k_1 => ?_)
      replace k_1 := Fr_trans (Fr_refl _ h) (Fr_mono fs_X8_passOneDay__X8_pass_37 k_1)
      exact pk_mono (ih h_6 x1 (x2 + 1)) (fun _ k => Fr_trans k_1 k)
def S_X8_pass : CL := [(0, 1, 5), (0, 1, 7), (0, 1, 8), (0, 1, 11), (0, 1, 12), (0, 6, 3), (1, 1, 0), (1, 1, 2), (1, 6, 1), (1, 6, 2)]
theorem fs_X8_pass_26__X8_pass : ∀ x ∈ S_X8_pass_26, x ∈ S_X8_pass := by decide
theorem fs_X4_keepStep__X8_pass : ∀ x ∈ S_X4_keepStep, x ∈ S_X8_pass := by decide
theorem fs_X8_pass_37__X8_pass : ∀ x ∈ S_X8_pass_37, x ∈ S_X8_pass := by decide
theorem w_f_X8_pass (h : HS) (p1 : Int32) : pk (f_X8_pass h p1) (fun a => Fr S_X8_pass h a.2) := by
  unfold f_X8_pass
  refine pk_if (fun _ => ?_) (fun _ => ?_)
  · exact pk_mono (w_f_X8_pass_26 h) (fun _ k => Fr_trans (Fr_refl _ h) (Fr_mono fs_X8_pass_26__X8_pass k))
  · refine pk_if (fun _ => ?_) (fun _ => ?_)
    · exact pk_mono (w_f_X8_pass_26 h) (fun _ k => Fr_trans (Fr_refl _ h) (Fr_mono fs_X8_pass_26__X8_pass k))
    · refine pk_if (fun _ => ?_) (fun _ => ?_)
      · refine pk_ob1 (w_f_X4_keepStep h) (fun h_4 k_1 => ?_)
        replace k_1 := Fr_trans (Fr_refl _ h) (Fr_mono fs_X4_keepStep__X8_pass k_1)
        exact pk_mono (w_f_X8_pass_37 8589934592 h_4 p1 0) (fun _ k => Fr_trans k_1 (Fr_mono fs_X8_pass_37__X8_pass k))
      · exact pk_mono (w_f_X8_pass_26 h) (fun _ k => Fr_trans (Fr_refl _ h) (Fr_mono fs_X8_pass_26__X8_pass k))
def S_X8_feed : CL := [(0, 3, 1), (1, 3, 0)]
theorem fs_X5_addFour__X8_feed : ∀ x ∈ S_X5_addFour, x ∈ S_X8_feed := by decide
theorem w_f_X8_feed (h : HS) (p1 : Int32) (p2 : Int32) (p3 : Int32) (p4 : Int32) (p5 : Int32) : pk (f_X8_feed h p1 p2 p3 p4 p5) (fun a => Fr S_X8_feed h a.2) := by
  unfold f_X8_feed
  refine pk_if (fun _ => ?_) (fun _ => ?_)
  · refine pk_ob1 (w_f_X5_addFour h p1) (fun h_2 k_1 => ?_)
    replace k_1 := Fr_trans (Fr_refl _ h) (Fr_mono fs_X5_addFour__X8_feed k_1)
    refine pk_ob1 (w_f_X5_addFour h_2 p2) (fun h_3 k_2 => ?_)
    replace k_2 := Fr_trans k_1 (Fr_mono fs_X5_addFour__X8_feed k_2)
    refine pk_ob1 (w_f_X5_addFour h_3 p3) (fun h_4 k_3 => ?_)
    replace k_3 := Fr_trans k_2 (Fr_mono fs_X5_addFour__X8_feed k_3)
    refine pk_ob1 (w_f_X5_addFour h_4 p4) (fun h_5 k_4 => ?_)
    replace k_4 := Fr_trans k_3 (Fr_mono fs_X5_addFour__X8_feed k_4)
    refine pk_ob1 (w_f_X5_addFour h_5 p5) (fun h_6 k_5 => ?_)
    replace k_5 := Fr_trans k_4 (Fr_mono fs_X5_addFour__X8_feed k_5)
    exact pk_some k_5
  · exact pk_some (Fr_refl _ h)
def S_X8_end_15 : CL := []
theorem w_f_X8_end_15 (h : HS) : pk (f_X8_end_15 h) (fun a => Fr S_X8_end_15 h a.2) := by
  unfold f_X8_end_15
  exact pk_some (Fr_refl _ h)
def S_X8_end : CL := [(0, 3, 1)]
theorem fm_X8_end_0_3_1 : (0, 3, 1) ∈ S_X8_end := by decide
theorem fs_X8_end_15__X8_end : ∀ x ∈ S_X8_end_15, x ∈ S_X8_end := by decide
theorem w_f_X8_end (h : HS) (p1 : Int32) : pk (f_X8_end h p1) (fun a => Fr S_X8_end h a.2) := by
  unfold f_X8_end
  refine pk_if (fun _ => ?_) (fun _ => ?_)
  · exact pk_mono (w_f_X8_end_15 h) (fun _ k => Fr_trans (Fr_refl _ h) (Fr_mono fs_X8_end_15__X8_end k))
  · refine pk_if (fun _ => ?_) (fun _ => ?_)
    · exact pk_some (Fr_sI fm_X8_end_0_3_1 (Fr_refl _ h))
    · exact pk_mono (w_f_X8_end_15 h) (fun _ k => Fr_trans (Fr_refl _ h) (Fr_mono fs_X8_end_15__X8_end k))
def S_X8_text : CL := [(0, 1, 9), (0, 3, 1), (0, 4, 3), (0, 4, 4), (0, 5, 0), (0, 5, 1), (0, 5, 2), (0, 9, 1), (0, 9, 5), (0, 10, 1), (0, 10, 5), (0, 11, 1), (0, 11, 5), (0, 12, 1), (0, 12, 5), (1, 4, 0), (1, 4, 1), (1, 4, 2), (1, 9, 0), (1, 9, 2), (1, 9, 3), (1, 9, 4), (1, 10, 0), (1, 10, 2), (1, 10, 3), (1, 10, 4), (1, 11, 0), (1, 11, 2), (1, 11, 3), (1, 11, 4), (1, 12, 0), (1, 12, 2), (1, 12, 3), (1, 12, 4)]
