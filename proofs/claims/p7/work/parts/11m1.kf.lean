def KF (h c : HS) : Prop := eI c 5 0 = 0 → eI h 5 0 = 0
theorem KF_refl (h : HS) : KF h h := fun q => q
theorem KF_trans {a b c : HS} (x : KF a b) (y : KF b c) : KF a c := fun q => x (y q)
theorem KF_fr {S : CL} {h c : HS} (f : Fr S h c) (n : (0, 5, 0) ∉ S) : KF h c := fun q => by rw [← f.1 5 0 n]; exact q
theorem kf_f_X2_fail (h : HS) (p1 : Int32) : pk (f_X2_fail h p1) (fun a => KF h a) := by
  unfold f_X2_fail f_X2_fail_20
  refine pk_if (fun c => ?_) (fun c => pk_some (KF_refl h))
  exact pk_ob2 (P := fun _ => True) (fun _ _ => trivial) (fun _ _ _ => pk_some (fun _ => c))
theorem kf_f_X2_expect (h : HS) (p1 : Int32) : pk (f_X2_expect h p1) (fun a => KF h a) := by
  unfold f_X2_expect
  refine pk_if (fun _ => ?_) (fun _ => ?_)
  · refine pk_ob2 (pk_mono (w_f_X7_kind h) (fun _ k => KF_fr k (by decide))) (fun r_2 h_2 k_1 => ?_)
    replace k_1 := KF_trans (KF_refl h) k_1
    refine pk_if (fun _ => ?_) (fun _ => ?_)
    · refine pk_ob1 (pk_mono (w_f_X7_advance h_2) (fun _ k => KF_fr k (by decide))) (fun h_5 k_2 => ?_)
      replace k_2 := KF_trans k_1 k_2
      exact pk_mono (pk_mono (w_f_X2_expect_29 h_5) (fun _ k => KF_fr k (by decide))) (fun _ k => KF_trans k_2 k)
    · refine pk_ob1 (kf_f_X2_fail h_2 1) (fun h_4 k_3 => ?_)
      replace k_3 := KF_trans k_1 k_3
      exact pk_mono (pk_mono (w_f_X2_expect_29 h_4) (fun _ k => KF_fr k (by decide))) (fun _ k => KF_trans k_3 k)
  · exact pk_some (KF_refl h)
theorem kf_f_X2_opens (h : HS) (p1 : Int32) : pk (f_X2_opens h p1) (fun a => KF h a.2) := by
  unfold f_X2_opens
  refine pk_if (fun _ => ?_) (fun _ => ?_)
  · refine pk_ob1 (pk_mono (w_f_X7_advance h) (fun _ k => KF_fr k (by decide))) (fun h_2 k_1 => ?_)
    replace k_1 := KF_trans (KF_refl h) k_1
    exact pk_some k_1
  · refine pk_ob1 (kf_f_X2_fail h 3) (fun h_3 k_2 => ?_)
    replace k_2 := KF_trans (KF_refl h) k_2
    exact pk_some k_2
theorem kf_f_X2_readValue_0 (h : HS) : pk (f_X2_readValue_0 h) (fun a => KF h a) := by
  unfold f_X2_readValue_0
  refine pk_ob2 (pk_mono (w_f_X7_value h) (fun _ k => KF_fr k (by decide))) (fun r_1 h_1 k_1 => ?_)
  replace k_1 := KF_trans (KF_refl h) k_1
  refine pk_if (fun _ => ?_) (fun _ => ?_)
  · refine pk_ob2 (pk_mono (w_f_X7_value h_1) (fun _ k => KF_fr k (by decide))) (fun r_3 h_3 k_2 => ?_)
    replace k_2 := KF_trans k_1 k_2
    refine pk_ob1 (pk_mono (w_f_X6_addStep_0 h_3 r_3) (fun _ k => KF_fr k (by decide))) (fun h_4 k_3 => ?_)
    replace k_3 := KF_trans k_2 k_3
    refine pk_ob1 (pk_mono (w_f_X7_advance h_4) (fun _ k => KF_fr k (by decide))) (fun h_5 k_4 => ?_)
    replace k_4 := KF_trans k_3 k_4
    exact pk_some k_4
  · refine pk_ob1 (kf_f_X2_fail h_1 2) (fun h_6 k_5 => ?_)
    replace k_5 := KF_trans k_1 k_5
    exact pk_some k_5
theorem kf_f_X2_readName_0 (h : HS) : pk (f_X2_readName_0 h) (fun a => KF h a) := by
  unfold f_X2_readName_0
  refine pk_ob2 (pk_mono (w_f_X7_kind h) (fun _ k => KF_fr k (by decide))) (fun r_1 h_1 k_1 => ?_)
  replace k_1 := KF_trans (KF_refl h) k_1
  refine pk_if (fun _ => ?_) (fun _ => ?_)
  · exact pk_mono (pk_mono (w_f_X2_readName_0_31 h_1) (fun _ k => KF_fr k (by decide))) (fun _ k => KF_trans k_1 k)
  · refine pk_if (fun _ => ?_) (fun _ => ?_)
    · exact pk_mono (pk_mono (w_f_X2_readName_0_31 h_1) (fun _ k => KF_fr k (by decide))) (fun _ k => KF_trans k_1 k)
    · refine pk_if (fun _ => ?_) (fun _ => ?_)
      · exact pk_mono (pk_mono (w_f_X2_readName_0_31 h_1) (fun _ k => KF_fr k (by decide))) (fun _ k => KF_trans k_1 k)
      · refine pk_ob1 (kf_f_X2_fail h_1 5) (fun h_5 k_2 => ?_)
        replace k_2 := KF_trans k_1 k_2
        exact pk_some k_2
theorem kf_f_X2_readNumber_0_43 (h : HS) : pk (f_X2_readNumber_0_43 h) (fun a => KF h a) := by
  unfold f_X2_readNumber_0_43
  refine pk_ob1 (kf_f_X2_fail h 2) (fun h_12 k_1 => ?_)
  replace k_1 := KF_trans (KF_refl h) k_1
  exact pk_mono (pk_mono (w_f_X2_readNumber_0_69 h_12) (fun _ k => KF_fr k (by decide))) (fun _ k => KF_trans k_1 k)
theorem kf_f_X2_readNumber_0 (h : HS) (p1 : Int32) (p2 : Int32) (p3 : Int32) : pk (f_X2_readNumber_0 h p1 p2 p3) (fun a => KF h a) := by
  unfold f_X2_readNumber_0
  refine pk_if (fun _ => ?_) (fun _ => ?_)
  · refine pk_ob2 (pk_mono (w_f_X7_kind h) (fun _ k => KF_fr k (by decide))) (fun r_2 h_2 k_1 => ?_)
    replace k_1 := KF_trans (KF_refl h) k_1
    refine pk_if (fun _ => ?_) (fun _ => ?_)
    · refine pk_ob2 (pk_mono (w_f_X7_value h_2) (fun _ k => KF_fr k (by decide))) (fun r_4 h_4 k_2 => ?_)
      replace k_2 := KF_trans k_1 k_2
      refine pk_if (fun _ => ?_) (fun _ => ?_)
      · exact pk_mono (kf_f_X2_readNumber_0_43 h_4) (fun _ k => KF_trans k_2 k)
      · refine pk_ob2 (pk_mono (w_f_X7_value h_4) (fun _ k => KF_fr k (by decide))) (fun r_6 h_6 k_3 => ?_)
        replace k_3 := KF_trans k_2 k_3
        refine pk_if (fun _ => ?_) (fun _ => ?_)
        · refine pk_ob2 (pk_mono (w_f_X7_value h_6) (fun _ k => KF_fr k (by decide))) (fun r_8 h_8 k_4 => ?_)
          replace k_4 := KF_trans k_3 k_4
          refine pk_ob1 (pk_mono (w_f_X6_setClause_0 h_8 (eI h_6 9 1) p1 r_8) (fun _ k => KF_fr k (by decide))) (fun h_9 k_5 => ?_)
          replace k_5 := KF_trans k_4 k_5
          refine pk_ob1 (pk_mono (w_f_X7_advance h_9) (fun _ k => KF_fr k (by decide))) (fun h_10 k_6 => ?_)
          replace k_6 := KF_trans k_5 k_6
          exact pk_mono (pk_mono (w_f_X2_readNumber_0_69 h_10) (fun _ k => KF_fr k (by decide))) (fun _ k => KF_trans k_6 k)
        · exact pk_mono (kf_f_X2_readNumber_0_43 h_6) (fun _ k => KF_trans k_3 k)
    · refine pk_ob1 (kf_f_X2_fail h_2 1) (fun h_11 k_7 => ?_)
      replace k_7 := KF_trans k_1 k_7
      exact pk_mono (pk_mono (w_f_X2_readNumber_0_69 h_11) (fun _ k => KF_fr k (by decide))) (fun _ k => KF_trans k_7 k)
  · exact pk_some (KF_refl h)
theorem kf_f_X2_readDeed_0 (h : HS) (p1 : Int32) : pk (f_X2_readDeed_0 h p1) (fun a => KF h a) := by
  unfold f_X2_readDeed_0
  refine pk_if (fun _ => ?_) (fun _ => ?_)
  · refine pk_ob1 (kf_f_X2_readNumber_0 h 1 1 99) (fun h_11 k_1 => ?_)
    replace k_1 := KF_trans (KF_refl h) k_1
    exact pk_some k_1
  · refine pk_ob1 (kf_f_X2_readNumber_0 h 1 0 9) (fun h_2 k_2 => ?_)
    replace k_2 := KF_trans (KF_refl h) k_2
    refine pk_if (fun _ => ?_) (fun _ => ?_)
    · refine pk_ob1 (kf_f_X2_expect h_2 24) (fun h_7 k_3 => ?_)
      replace k_3 := KF_trans k_2 k_3
      refine pk_ob1 (kf_f_X2_readNumber_0 h_7 2 0 5) (fun h_8 k_4 => ?_)
      replace k_4 := KF_trans k_3 k_4
      refine pk_ob1 (kf_f_X2_expect h_8 33) (fun h_9 k_5 => ?_)
      replace k_5 := KF_trans k_4 k_5
      refine pk_ob1 (kf_f_X2_readNumber_0 h_9 3 0 2) (fun h_10 k_6 => ?_)
      replace k_6 := KF_trans k_5 k_6
      exact pk_mono (pk_mono (w_f_X2_readDeed_0_90 h_10) (fun _ k => KF_fr k (by decide))) (fun _ k => KF_trans k_6 k)
    · refine pk_if (fun _ => ?_) (fun _ => ?_)
      · refine pk_ob1 (kf_f_X2_expect h_2 25) (fun h_5 k_7 => ?_)
        replace k_7 := KF_trans k_2 k_7
        refine pk_ob1 (kf_f_X2_readNumber_0 h_5 2 0 3) (fun h_6 k_8 => ?_)
        replace k_8 := KF_trans k_7 k_8
        exact pk_mono (pk_mono (w_f_X2_readDeed_0_90 h_6) (fun _ k => KF_fr k (by decide))) (fun _ k => KF_trans k_8 k)
      · exact pk_mono (pk_mono (w_f_X2_readDeed_0_90 h_2) (fun _ k => KF_fr k (by decide))) (fun _ k => KF_trans k_2 k)
theorem kf_f_X2_readLevel_0_105 (kR_X2_readLevel : HS → Int32 → Int32 → Option HS) (hk_kR_X2_readLevel : ∀ (h : HS) (x0 : Int32) (x1 : Int32), pk (kR_X2_readLevel h x0 x1) (fun a => KF h a)) (kR_X2_readAsk : HS → Int32 → Option HS) (hk_kR_X2_readAsk : ∀ (h : HS) (x0 : Int32), pk (kR_X2_readAsk h x0) (fun a => KF h a)) (kR_X2_readOne : HS → Int32 → Option HS) (hk_kR_X2_readOne : ∀ (h : HS) (x0 : Int32), pk (kR_X2_readOne h x0) (fun a => KF h a)) (h : HS) : pk (f_X2_readLevel_0_105 kR_X2_readLevel kR_X2_readAsk kR_X2_readOne h) (fun a => KF h a) := by
  unfold f_X2_readLevel_0_105
  exact pk_some (KF_refl h)
theorem kf_f_X2_readLevel_0_42 (kR_X2_readLevel : HS → Int32 → Int32 → Option HS) (hk_kR_X2_readLevel : ∀ (h : HS) (x0 : Int32) (x1 : Int32), pk (kR_X2_readLevel h x0 x1) (fun a => KF h a)) (kR_X2_readAsk : HS → Int32 → Option HS) (hk_kR_X2_readAsk : ∀ (h : HS) (x0 : Int32), pk (kR_X2_readAsk h x0) (fun a => KF h a)) (kR_X2_readOne : HS → Int32 → Option HS) (hk_kR_X2_readOne : ∀ (h : HS) (x0 : Int32), pk (kR_X2_readOne h x0) (fun a => KF h a)) : ∀ (n : Nat) (h : HS) (x3 : Int32) (x4 : Int32) (x5 : Int32), pk (f_X2_readLevel_0_42 kR_X2_readLevel kR_X2_readAsk kR_X2_readOne n h x3 x4 x5) (fun a => KF h a) := by
  intro n
  induction n with
  | zero => intro h x3 x4 x5; exact pk_none
  | succ n ih =>
    intro h x3 x4 x5
    rw [f_X2_readLevel_0_42_s]
    refine pk_if (fun _ => ?_) (fun _ => ?_)
    · exact pk_mono (kf_f_X2_readLevel_0_105 kR_X2_readLevel hk_kR_X2_readLevel kR_X2_readAsk hk_kR_X2_readAsk kR_X2_readOne hk_kR_X2_readOne h) (fun _ k => KF_trans (KF_refl h) k)
    · refine pk_if (fun _ => ?_) (fun _ => ?_)
      · refine pk_ob2 (pk_mono (w_f_X7_kind h) (fun _ k => KF_fr k (by decide))) (fun r_8 h_8 k_1 => ?_)
        replace k_1 := KF_trans (KF_refl h) k_1
        refine pk_obf (fun r_9 => ?_)
        refine pk_if (fun _ => ?_) (fun _ => ?_)
        · refine pk_ob2 (pk_mono (w_f_X7_kind h_8) (fun _ k => KF_fr k (by decide))) (fun r_11 h_11 k_2 => ?_)
          replace k_2 := KF_trans k_1 k_2
          refine pk_ob1 (pk_mono (w_f_X7_advance h_11) (fun _ k => KF_fr k (by decide))) (fun h_12 k_3 => ?_)
          replace k_3 := KF_trans k_2 k_3
          refine pk_ob1 (hk_kR_X2_readLevel h_12 (x3 + 1) x4) (fun h_13 k_4 => ?_)
          replace k_4 := KF_trans k_3 k_4
          refine pk_ob1 (pk_mono (w_f_X6_addStep_0 h_13 (20000 + r_11)) (fun _ k => KF_fr k (by decide))) (fun h_14 k_5 => ?_)
          replace k_5 := KF_trans k_4 k_5
          exact pk_mono (ih h_14 x3 x4 (x5 + 1)) (fun _ k => KF_trans k_5 k)
        · exact pk_mono (kf_f_X2_readLevel_0_105 kR_X2_readLevel hk_kR_X2_readLevel kR_X2_readAsk hk_kR_X2_readAsk kR_X2_readOne hk_kR_X2_readOne h_8) (fun _ k => KF_trans k_1 k)
      · exact pk_mono (kf_f_X2_readLevel_0_105 kR_X2_readLevel hk_kR_X2_readLevel kR_X2_readAsk hk_kR_X2_readAsk kR_X2_readOne hk_kR_X2_readOne h) (fun _ k => KF_trans (KF_refl h) k)
theorem kf_f_X2_readLevel_0_b (kR_X2_readLevel : HS → Int32 → Int32 → Option HS) (hk_kR_X2_readLevel : ∀ (h : HS) (x0 : Int32) (x1 : Int32), pk (kR_X2_readLevel h x0 x1) (fun a => KF h a)) (kR_X2_readAsk : HS → Int32 → Option HS) (hk_kR_X2_readAsk : ∀ (h : HS) (x0 : Int32), pk (kR_X2_readAsk h x0) (fun a => KF h a)) (kR_X2_readOne : HS → Int32 → Option HS) (hk_kR_X2_readOne : ∀ (h : HS) (x0 : Int32), pk (kR_X2_readOne h x0) (fun a => KF h a)) (h : HS) (p1 : Int32) (p2 : Int32) : pk (f_X2_readLevel_0_b kR_X2_readLevel kR_X2_readAsk kR_X2_readOne h p1 p2) (fun a => KF h a) := by
  unfold f_X2_readLevel_0_b
  refine pk_if (fun _ => ?_) (fun _ => ?_)
  · refine pk_ob1 (hk_kR_X2_readAsk h p2) (fun h_5 k_1 => ?_)
    replace k_1 := KF_trans (KF_refl h) k_1
    exact pk_some k_1
  · refine pk_if (fun _ => ?_) (fun _ => ?_)
    · refine pk_ob1 (hk_kR_X2_readOne h p2) (fun h_4 k_2 => ?_)
      replace k_2 := KF_trans (KF_refl h) k_2
      exact pk_some k_2
    · refine pk_ob1 (hk_kR_X2_readLevel h (p1 + 1) p2) (fun h_3 k_3 => ?_)
      replace k_3 := KF_trans (KF_refl h) k_3
      exact pk_mono (kf_f_X2_readLevel_0_42 kR_X2_readLevel hk_kR_X2_readLevel kR_X2_readAsk hk_kR_X2_readAsk kR_X2_readOne hk_kR_X2_readOne 8589934592 h_3 p1 p2 0) (fun _ k => KF_trans k_3 k)
theorem kf_f_X2_readAsk_0_97 (kR_X2_readLevel : HS → Int32 → Int32 → Option HS) (hk_kR_X2_readLevel : ∀ (h : HS) (x0 : Int32) (x1 : Int32), pk (kR_X2_readLevel h x0 x1) (fun a => KF h a)) (kR_X2_readAsk : HS → Int32 → Option HS) (hk_kR_X2_readAsk : ∀ (h : HS) (x0 : Int32), pk (kR_X2_readAsk h x0) (fun a => KF h a)) (kR_X2_readOne : HS → Int32 → Option HS) (hk_kR_X2_readOne : ∀ (h : HS) (x0 : Int32), pk (kR_X2_readOne h x0) (fun a => KF h a)) (h : HS) : pk (f_X2_readAsk_0_97 kR_X2_readLevel kR_X2_readAsk kR_X2_readOne h) (fun a => KF h a) := by
  unfold f_X2_readAsk_0_97
  exact pk_some (KF_refl h)
theorem kf_f_X2_readAsk_0_68 (kR_X2_readLevel : HS → Int32 → Int32 → Option HS) (hk_kR_X2_readLevel : ∀ (h : HS) (x0 : Int32) (x1 : Int32), pk (kR_X2_readLevel h x0 x1) (fun a => KF h a)) (kR_X2_readAsk : HS → Int32 → Option HS) (hk_kR_X2_readAsk : ∀ (h : HS) (x0 : Int32), pk (kR_X2_readAsk h x0) (fun a => KF h a)) (kR_X2_readOne : HS → Int32 → Option HS) (hk_kR_X2_readOne : ∀ (h : HS) (x0 : Int32), pk (kR_X2_readOne h x0) (fun a => KF h a)) (h : HS) (x3 : Int32) (x4 : Int32) : pk (f_X2_readAsk_0_68 kR_X2_readLevel kR_X2_readAsk kR_X2_readOne h x3 x4) (fun a => KF h a) := by
  unfold f_X2_readAsk_0_68
  refine pk_if (fun _ => ?_) (fun _ => ?_)
  · refine pk_ob1 (pk_mono (w_f_X7_advance h) (fun _ k => KF_fr k (by decide))) (fun h_13 k_1 => ?_)
    replace k_1 := KF_trans (KF_refl h) k_1
    refine pk_ob1 (hk_kR_X2_readLevel h_13 3 x3) (fun h_14 k_2 => ?_)
    replace k_2 := KF_trans k_1 k_2
    refine pk_ob1 (pk_mono (w_f_X6_addStep_0 h_14 (20000 + x4)) (fun _ k => KF_fr k (by decide))) (fun h_15 k_3 => ?_)
    replace k_3 := KF_trans k_2 k_3
    exact pk_mono (kf_f_X2_readAsk_0_97 kR_X2_readLevel hk_kR_X2_readLevel kR_X2_readAsk hk_kR_X2_readAsk kR_X2_readOne hk_kR_X2_readOne h_15) (fun _ k => KF_trans k_3 k)
  · exact pk_mono (kf_f_X2_readAsk_0_97 kR_X2_readLevel hk_kR_X2_readLevel kR_X2_readAsk hk_kR_X2_readAsk kR_X2_readOne hk_kR_X2_readOne h) (fun _ k => KF_trans (KF_refl h) k)
theorem kf_f_X2_readAsk_0_62 (kR_X2_readLevel : HS → Int32 → Int32 → Option HS) (hk_kR_X2_readLevel : ∀ (h : HS) (x0 : Int32) (x1 : Int32), pk (kR_X2_readLevel h x0 x1) (fun a => KF h a)) (kR_X2_readAsk : HS → Int32 → Option HS) (hk_kR_X2_readAsk : ∀ (h : HS) (x0 : Int32), pk (kR_X2_readAsk h x0) (fun a => KF h a)) (kR_X2_readOne : HS → Int32 → Option HS) (hk_kR_X2_readOne : ∀ (h : HS) (x0 : Int32), pk (kR_X2_readOne h x0) (fun a => KF h a)) (h : HS) (x3 : Int32) (x4 : Int32) : pk (f_X2_readAsk_0_62 kR_X2_readLevel kR_X2_readAsk kR_X2_readOne h x3 x4) (fun a => KF h a) := by
  unfold f_X2_readAsk_0_62
  refine pk_ob1 (kf_f_X2_fail h 1) (fun h_11 k_1 => ?_)
  replace k_1 := KF_trans (KF_refl h) k_1
  exact pk_mono (kf_f_X2_readAsk_0_68 kR_X2_readLevel hk_kR_X2_readLevel kR_X2_readAsk hk_kR_X2_readAsk kR_X2_readOne hk_kR_X2_readOne h_11 x3 x4) (fun _ k => KF_trans k_1 k)
theorem kf_f_X2_readAsk_0_34 (kR_X2_readLevel : HS → Int32 → Int32 → Option HS) (hk_kR_X2_readLevel : ∀ (h : HS) (x0 : Int32) (x1 : Int32), pk (kR_X2_readLevel h x0 x1) (fun a => KF h a)) (kR_X2_readAsk : HS → Int32 → Option HS) (hk_kR_X2_readAsk : ∀ (h : HS) (x0 : Int32), pk (kR_X2_readAsk h x0) (fun a => KF h a)) (kR_X2_readOne : HS → Int32 → Option HS) (hk_kR_X2_readOne : ∀ (h : HS) (x0 : Int32), pk (kR_X2_readOne h x0) (fun a => KF h a)) (h : HS) : pk (f_X2_readAsk_0_34 kR_X2_readLevel kR_X2_readAsk kR_X2_readOne h) (fun a => KF h a) := by
  unfold f_X2_readAsk_0_34
  exact pk_some (KF_refl h)
theorem kf_f_X2_readAsk_0_b (kR_X2_readLevel : HS → Int32 → Int32 → Option HS) (hk_kR_X2_readLevel : ∀ (h : HS) (x0 : Int32) (x1 : Int32), pk (kR_X2_readLevel h x0 x1) (fun a => KF h a)) (kR_X2_readAsk : HS → Int32 → Option HS) (hk_kR_X2_readAsk : ∀ (h : HS) (x0 : Int32), pk (kR_X2_readAsk h x0) (fun a => KF h a)) (kR_X2_readOne : HS → Int32 → Option HS) (hk_kR_X2_readOne : ∀ (h : HS) (x0 : Int32), pk (kR_X2_readOne h x0) (fun a => KF h a)) (h : HS) (p1 : Int32) : pk (f_X2_readAsk_0_b kR_X2_readLevel kR_X2_readAsk kR_X2_readOne h p1) (fun a => KF h a) := by
  unfold f_X2_readAsk_0_b
  refine pk_ob2 (pk_mono (w_f_X7_kind h) (fun _ k => KF_fr k (by decide))) (fun r_1 h_1 k_1 => ?_)
  replace k_1 := KF_trans (KF_refl h) k_1
  refine pk_if (fun _ => ?_) (fun _ => ?_)
  · refine pk_ob2 (kf_f_X2_opens h_1 p1) (fun r_7 h_7 k_2 => ?_)
    replace k_2 := KF_trans k_1 k_2
    refine pk_if (fun _ => ?_) (fun _ => ?_)
    · exact pk_mono (kf_f_X2_readAsk_0_34 kR_X2_readLevel hk_kR_X2_readLevel kR_X2_readAsk hk_kR_X2_readAsk kR_X2_readOne hk_kR_X2_readOne h_7) (fun _ k => KF_trans k_2 k)
    · refine pk_ob1 (hk_kR_X2_readAsk h_7 (p1 + 1)) (fun h_9 k_3 => ?_)
      replace k_3 := KF_trans k_2 k_3
      refine pk_ob1 (pk_mono (w_f_X6_addStep_0 h_9 20028) (fun _ k => KF_fr k (by decide))) (fun h_10 k_4 => ?_)
      replace k_4 := KF_trans k_3 k_4
      exact pk_mono (kf_f_X2_readAsk_0_34 kR_X2_readLevel hk_kR_X2_readLevel kR_X2_readAsk hk_kR_X2_readAsk kR_X2_readOne hk_kR_X2_readOne h_10) (fun _ k => KF_trans k_4 k)
  · refine pk_ob1 (hk_kR_X2_readLevel h_1 3 p1) (fun h_3 k_5 => ?_)
    replace k_5 := KF_trans k_1 k_5
    refine pk_ob2 (pk_mono (w_f_X7_kind h_3) (fun _ k => KF_fr k (by decide))) (fun r_4 h_4 k_6 => ?_)
    replace k_6 := KF_trans k_5 k_6
    refine pk_if (fun _ => ?_) (fun _ => ?_)
    · exact pk_mono (kf_f_X2_readAsk_0_62 kR_X2_readLevel hk_kR_X2_readLevel kR_X2_readAsk hk_kR_X2_readAsk kR_X2_readOne hk_kR_X2_readOne h_4 p1 r_4) (fun _ k => KF_trans k_6 k)
    · refine pk_if (fun _ => ?_) (fun _ => ?_)
      · exact pk_mono (kf_f_X2_readAsk_0_68 kR_X2_readLevel hk_kR_X2_readLevel kR_X2_readAsk hk_kR_X2_readAsk kR_X2_readOne hk_kR_X2_readOne h_4 p1 r_4) (fun _ k => KF_trans k_6 k)
      · exact pk_mono (kf_f_X2_readAsk_0_62 kR_X2_readLevel hk_kR_X2_readLevel kR_X2_readAsk hk_kR_X2_readAsk kR_X2_readOne hk_kR_X2_readOne h_4 p1 r_4) (fun _ k => KF_trans k_6 k)
theorem kf_f_X2_readOne_0_121 (kR_X2_readLevel : HS → Int32 → Int32 → Option HS) (hk_kR_X2_readLevel : ∀ (h : HS) (x0 : Int32) (x1 : Int32), pk (kR_X2_readLevel h x0 x1) (fun a => KF h a)) (kR_X2_readAsk : HS → Int32 → Option HS) (hk_kR_X2_readAsk : ∀ (h : HS) (x0 : Int32), pk (kR_X2_readAsk h x0) (fun a => KF h a)) (kR_X2_readOne : HS → Int32 → Option HS) (hk_kR_X2_readOne : ∀ (h : HS) (x0 : Int32), pk (kR_X2_readOne h x0) (fun a => KF h a)) (h : HS) : pk (f_X2_readOne_0_121 kR_X2_readLevel kR_X2_readAsk kR_X2_readOne h) (fun a => KF h a) := by
  unfold f_X2_readOne_0_121
  exact pk_some (KF_refl h)
theorem kf_f_X2_readOne_0_44 (kR_X2_readLevel : HS → Int32 → Int32 → Option HS) (hk_kR_X2_readLevel : ∀ (h : HS) (x0 : Int32) (x1 : Int32), pk (kR_X2_readLevel h x0 x1) (fun a => KF h a)) (kR_X2_readAsk : HS → Int32 → Option HS) (hk_kR_X2_readAsk : ∀ (h : HS) (x0 : Int32), pk (kR_X2_readAsk h x0) (fun a => KF h a)) (kR_X2_readOne : HS → Int32 → Option HS) (hk_kR_X2_readOne : ∀ (h : HS) (x0 : Int32), pk (kR_X2_readOne h x0) (fun a => KF h a)) (h : HS) (x3 : Int32) (x4 : Int32) : pk (f_X2_readOne_0_44 kR_X2_readLevel kR_X2_readAsk kR_X2_readOne h x3 x4) (fun a => KF h a) := by
  unfold f_X2_readOne_0_44
  refine pk_if (fun _ => ?_) (fun _ => ?_)
  · refine pk_ob2 (kf_f_X2_opens h x3) (fun r_14 h_14 k_1 => ?_)
    replace k_1 := KF_trans (KF_refl h) k_1
    refine pk_if (fun _ => ?_) (fun _ => ?_)
    · exact pk_mono (kf_f_X2_readOne_0_121 kR_X2_readLevel hk_kR_X2_readLevel kR_X2_readAsk hk_kR_X2_readAsk kR_X2_readOne hk_kR_X2_readOne h_14) (fun _ k => KF_trans k_1 k)
    · refine pk_ob1 (hk_kR_X2_readLevel h_14 3 (x3 + 1)) (fun h_16 k_2 => ?_)
      replace k_2 := KF_trans k_1 k_2
      refine pk_ob1 (kf_f_X2_expect h_16 14) (fun h_17 k_3 => ?_)
      replace k_3 := KF_trans k_2 k_3
      exact pk_mono (kf_f_X2_readOne_0_121 kR_X2_readLevel hk_kR_X2_readLevel kR_X2_readAsk hk_kR_X2_readAsk kR_X2_readOne hk_kR_X2_readOne h_17) (fun _ k => KF_trans k_3 k)
  · refine pk_if (fun _ => ?_) (fun _ => ?_)
    · refine pk_ob2 (kf_f_X2_opens h x3) (fun r_10 h_10 k_4 => ?_)
      replace k_4 := KF_trans (KF_refl h) k_4
      refine pk_if (fun _ => ?_) (fun _ => ?_)
      · exact pk_mono (kf_f_X2_readOne_0_121 kR_X2_readLevel hk_kR_X2_readLevel kR_X2_readAsk hk_kR_X2_readAsk kR_X2_readOne hk_kR_X2_readOne h_10) (fun _ k => KF_trans k_4 k)
      · refine pk_ob1 (hk_kR_X2_readOne h_10 (x3 + 1)) (fun h_12 k_5 => ?_)
        replace k_5 := KF_trans k_4 k_5
        refine pk_ob1 (pk_mono (w_f_X6_addStep_0 h_12 20038) (fun _ k => KF_fr k (by decide))) (fun h_13 k_6 => ?_)
        replace k_6 := KF_trans k_5 k_6
        exact pk_mono (kf_f_X2_readOne_0_121 kR_X2_readLevel hk_kR_X2_readLevel kR_X2_readAsk hk_kR_X2_readAsk kR_X2_readOne hk_kR_X2_readOne h_13) (fun _ k => KF_trans k_6 k)
    · refine pk_ob1 (kf_f_X2_fail h 1) (fun h_9 k_7 => ?_)
      replace k_7 := KF_trans (KF_refl h) k_7
      exact pk_mono (kf_f_X2_readOne_0_121 kR_X2_readLevel hk_kR_X2_readLevel kR_X2_readAsk hk_kR_X2_readAsk kR_X2_readOne hk_kR_X2_readOne h_9) (fun _ k => KF_trans k_7 k)
theorem kf_f_X2_readOne_0_b (kR_X2_readLevel : HS → Int32 → Int32 → Option HS) (hk_kR_X2_readLevel : ∀ (h : HS) (x0 : Int32) (x1 : Int32), pk (kR_X2_readLevel h x0 x1) (fun a => KF h a)) (kR_X2_readAsk : HS → Int32 → Option HS) (hk_kR_X2_readAsk : ∀ (h : HS) (x0 : Int32), pk (kR_X2_readAsk h x0) (fun a => KF h a)) (kR_X2_readOne : HS → Int32 → Option HS) (hk_kR_X2_readOne : ∀ (h : HS) (x0 : Int32), pk (kR_X2_readOne h x0) (fun a => KF h a)) (h : HS) (p1 : Int32) : pk (f_X2_readOne_0_b kR_X2_readLevel kR_X2_readAsk kR_X2_readOne h p1) (fun a => KF h a) := by
  unfold f_X2_readOne_0_b
  refine pk_ob2 (pk_mono (w_f_X7_kind h) (fun _ k => KF_fr k (by decide))) (fun r_1 h_1 k_1 => ?_)
  replace k_1 := KF_trans (KF_refl h) k_1
  refine pk_if (fun _ => ?_) (fun _ => ?_)
  · refine pk_ob1 (kf_f_X2_readValue_0 h_1) (fun h_6 k_2 => ?_)
    replace k_2 := KF_trans k_1 k_2
    exact pk_mono (kf_f_X2_readOne_0_121 kR_X2_readLevel hk_kR_X2_readLevel kR_X2_readAsk hk_kR_X2_readAsk kR_X2_readOne hk_kR_X2_readOne h_6) (fun _ k => KF_trans k_2 k)
  · refine pk_if (fun _ => ?_) (fun _ => ?_)
    · exact pk_mono (kf_f_X2_readOne_0_44 kR_X2_readLevel hk_kR_X2_readLevel kR_X2_readAsk hk_kR_X2_readAsk kR_X2_readOne hk_kR_X2_readOne h_1 p1 r_1) (fun _ k => KF_trans k_1 k)
    · refine pk_if (fun _ => ?_) (fun _ => ?_)
      · exact pk_mono (kf_f_X2_readOne_0_44 kR_X2_readLevel hk_kR_X2_readLevel kR_X2_readAsk hk_kR_X2_readAsk kR_X2_readOne hk_kR_X2_readOne h_1 p1 r_1) (fun _ k => KF_trans k_1 k)
      · refine pk_ob1 (kf_f_X2_readName_0 h_1) (fun h_5 k_3 => ?_)
        replace k_3 := KF_trans k_1 k_3
        exact pk_mono (kf_f_X2_readOne_0_121 kR_X2_readLevel hk_kR_X2_readLevel kR_X2_readAsk hk_kR_X2_readAsk kR_X2_readOne hk_kR_X2_readOne h_5) (fun _ k => KF_trans k_3 k)
theorem kf_G_read_0 : ∀ (n t : Nat) (h : HS) (p1 p2 : Int32), pk (G_read_0 n t h p1 p2) (fun a => KF h a) := by
  intro n
  induction n with
  | zero => intro t h p1 p2; exact (by simp [G_read_0]; exact pk_none)
  | succ n ih =>
    intro t h p1 p2
    match t with
    | 0 => exact kf_f_X2_readLevel_0_b (fun h p1 p2 => G_read_0 n 0 h p1 p2) (fun h p1 p2 => ih 0 h p1 p2) (fun h p1 => G_read_0 n 1 h p1 0) (fun h p1 => ih 1 h p1 0) (fun h p1 => G_read_0 n 2 h p1 0) (fun h p1 => ih 2 h p1 0) h p1 p2
    | 1 => exact kf_f_X2_readAsk_0_b (fun h p1 p2 => G_read_0 n 0 h p1 p2) (fun h p1 p2 => ih 0 h p1 p2) (fun h p1 => G_read_0 n 1 h p1 0) (fun h p1 => ih 1 h p1 0) (fun h p1 => G_read_0 n 2 h p1 0) (fun h p1 => ih 2 h p1 0) h p1
    | t + 2 => exact kf_f_X2_readOne_0_b (fun h p1 p2 => G_read_0 n 0 h p1 p2) (fun h p1 p2 => ih 0 h p1 p2) (fun h p1 => G_read_0 n 1 h p1 0) (fun h p1 => ih 1 h p1 0) (fun h p1 => G_read_0 n 2 h p1 0) (fun h p1 => ih 2 h p1 0) h p1
theorem kf_f_X2_readClause_0_25 (h : HS) : pk (f_X2_readClause_0_25 h) (fun a => KF h a) := by
  unfold f_X2_readClause_0_25
  refine pk_ob1 (kf_f_X2_fail h 1) (fun h_15 k_1 => ?_)
  replace k_1 := KF_trans (KF_refl h) k_1
  exact pk_mono (pk_mono (w_f_X2_readClause_0_158 h_15) (fun _ k => KF_fr k (by decide))) (fun _ k => KF_trans k_1 k)
theorem kf_f_X2_readClause_0_141 (h : HS) : pk (f_X2_readClause_0_141 h) (fun a => KF h a) := by
  unfold f_X2_readClause_0_141
  refine pk_ob1 (kf_f_X2_expect h 15) (fun h_16 k_1 => ?_)
  replace k_1 := KF_trans (KF_refl h) k_1
  exact pk_mono (pk_mono (w_f_X2_readClause_0_158 (sI h_16 9 1 ((eI h_16 9 1) + 1))) (fun _ k => KF_fr k (by decide))) (fun _ k => KF_trans (KF_trans k_1 (KF_fr (Fr_sI (S := [(0, 9, 1)]) (by decide) (Fr_refl _ _)) (by decide))) k)
theorem kf_f_X2_readClause_0_119 (h : HS) (y0 : Int32) : pk (f_X2_readClause_0_119 h y0) (fun a => KF h a) := by
  unfold f_X2_readClause_0_119
  refine pk_ob1 (kf_G_read_0 200 0 h y0 0) (fun h_17 k_1 => ?_)
  replace k_1 := KF_trans (KF_refl h) k_1
  refine pk_ob1 (pk_mono (w_f_X6_closeLaw_0 h_17 (eI h_17 5 2)) (fun _ k => KF_fr k (by decide))) (fun h_18 k_2 => ?_)
  replace k_2 := KF_trans k_1 k_2
  exact pk_mono (kf_f_X2_readClause_0_141 h_18) (fun _ k => KF_trans k_2 k)
theorem kf_f_X2_readClause_0 (h : HS) : pk (f_X2_readClause_0 h) (fun a => KF h a) := by
  unfold f_X2_readClause_0
  refine pk_ob2 (pk_mono (w_f_X7_kind h) (fun _ k => KF_fr k (by decide))) (fun r_1 h_1 k_1 => ?_)
  replace k_1 := KF_trans (KF_refl h) k_1
  refine pk_if (fun _ => ?_) (fun _ => ?_)
  · exact pk_mono (kf_f_X2_readClause_0_25 (sI h_1 5 2 (r_1 - 16))) (fun _ k => KF_trans (KF_trans k_1 (KF_fr (Fr_sI (S := [(0, 5, 2)]) (by decide) (Fr_refl _ _)) (by decide))) k)
  · refine pk_if (fun _ => ?_) (fun _ => ?_)
    · refine pk_ob2 (pk_mono (w_f_X6_hasLaw_0 (sI h_1 5 2 (r_1 - 16)) (r_1 - 16)) (fun _ k => KF_fr k (by decide))) (fun r_4 h_4 k_2 => ?_)
      replace k_2 := KF_trans (KF_trans k_1 (KF_fr (Fr_sI (S := [(0, 5, 2)]) (by decide) (Fr_refl _ _)) (by decide))) k_2
      refine pk_if (fun _ => ?_) (fun _ => ?_)
      · refine pk_if (fun _ => ?_) (fun _ => ?_)
        · refine pk_ob1 (pk_mono (w_f_X6_setClause_0 h_4 (eI h_4 9 1) 0 r_1) (fun _ k => KF_fr k (by decide))) (fun h_7 k_3 => ?_)
          replace k_3 := KF_trans k_2 k_3
          refine pk_ob1 (pk_mono (w_f_X7_advance h_7) (fun _ k => KF_fr k (by decide))) (fun h_8 k_4 => ?_)
          replace k_4 := KF_trans k_3 k_4
          refine pk_if (fun _ => ?_) (fun _ => ?_)
          · refine pk_ob1 (kf_f_X2_readDeed_0 h_8 r_1) (fun h_10 k_5 => ?_)
            replace k_5 := KF_trans k_4 k_5
            exact pk_mono (kf_f_X2_readClause_0_141 h_10) (fun _ k => KF_trans k_5 k)
          · refine pk_ob1 (pk_mono (w_f_X6_beginLaw_0 h_8 (eI h_8 5 2)) (fun _ k => KF_fr k (by decide))) (fun h_11 k_6 => ?_)
            replace k_6 := KF_trans k_4 k_6
            refine pk_if (fun _ => ?_) (fun _ => ?_)
            · exact pk_mono (kf_f_X2_readClause_0_119 h_11 0) (fun _ k => KF_trans k_6 k)
            · exact pk_mono (kf_f_X2_readClause_0_119 h_11 3) (fun _ k => KF_trans k_6 k)
        · refine pk_ob1 (kf_f_X2_fail h_4 6) (fun h_13 k_7 => ?_)
          replace k_7 := KF_trans k_2 k_7
          exact pk_mono (pk_mono (w_f_X2_readClause_0_158 h_13) (fun _ k => KF_fr k (by decide))) (fun _ k => KF_trans k_7 k)
      · refine pk_ob1 (kf_f_X2_fail h_4 4) (fun h_14 k_8 => ?_)
        replace k_8 := KF_trans k_2 k_8
        exact pk_mono (pk_mono (w_f_X2_readClause_0_158 h_14) (fun _ k => KF_fr k (by decide))) (fun _ k => KF_trans k_8 k)
    · exact pk_mono (kf_f_X2_readClause_0_25 (sI h_1 5 2 (r_1 - 16))) (fun _ k => KF_trans (KF_trans k_1 (KF_fr (Fr_sI (S := [(0, 5, 2)]) (by decide) (Fr_refl _ _)) (by decide))) k)
theorem kf_f_X2_readValue_1 (h : HS) : pk (f_X2_readValue_1 h) (fun a => KF h a) := by
  unfold f_X2_readValue_1
  refine pk_ob2 (pk_mono (w_f_X7_value h) (fun _ k => KF_fr k (by decide))) (fun r_1 h_1 k_1 => ?_)
  replace k_1 := KF_trans (KF_refl h) k_1
  refine pk_if (fun _ => ?_) (fun _ => ?_)
  · refine pk_ob2 (pk_mono (w_f_X7_value h_1) (fun _ k => KF_fr k (by decide))) (fun r_3 h_3 k_2 => ?_)
    replace k_2 := KF_trans k_1 k_2
    refine pk_ob1 (pk_mono (w_f_X6_addStep_1 h_3 r_3) (fun _ k => KF_fr k (by decide))) (fun h_4 k_3 => ?_)
    replace k_3 := KF_trans k_2 k_3
    refine pk_ob1 (pk_mono (w_f_X7_advance h_4) (fun _ k => KF_fr k (by decide))) (fun h_5 k_4 => ?_)
    replace k_4 := KF_trans k_3 k_4
    exact pk_some k_4
  · refine pk_ob1 (kf_f_X2_fail h_1 2) (fun h_6 k_5 => ?_)
    replace k_5 := KF_trans k_1 k_5
    exact pk_some k_5
theorem kf_f_X2_readName_1 (h : HS) : pk (f_X2_readName_1 h) (fun a => KF h a) := by
  unfold f_X2_readName_1
  refine pk_ob2 (pk_mono (w_f_X7_kind h) (fun _ k => KF_fr k (by decide))) (fun r_1 h_1 k_1 => ?_)
  replace k_1 := KF_trans (KF_refl h) k_1
  refine pk_if (fun _ => ?_) (fun _ => ?_)
  · exact pk_mono (pk_mono (w_f_X2_readName_1_31 h_1) (fun _ k => KF_fr k (by decide))) (fun _ k => KF_trans k_1 k)
  · refine pk_if (fun _ => ?_) (fun _ => ?_)
    · exact pk_mono (pk_mono (w_f_X2_readName_1_31 h_1) (fun _ k => KF_fr k (by decide))) (fun _ k => KF_trans k_1 k)
    · refine pk_if (fun _ => ?_) (fun _ => ?_)
      · exact pk_mono (pk_mono (w_f_X2_readName_1_31 h_1) (fun _ k => KF_fr k (by decide))) (fun _ k => KF_trans k_1 k)
      · refine pk_ob1 (kf_f_X2_fail h_1 5) (fun h_5 k_2 => ?_)
        replace k_2 := KF_trans k_1 k_2
        exact pk_some k_2
theorem kf_f_X2_readNumber_1_43 (h : HS) : pk (f_X2_readNumber_1_43 h) (fun a => KF h a) := by
  unfold f_X2_readNumber_1_43
  refine pk_ob1 (kf_f_X2_fail h 2) (fun h_12 k_1 => ?_)
  replace k_1 := KF_trans (KF_refl h) k_1
  exact pk_mono (pk_mono (w_f_X2_readNumber_1_69 h_12) (fun _ k => KF_fr k (by decide))) (fun _ k => KF_trans k_1 k)
theorem kf_f_X2_readNumber_1 (h : HS) (p1 : Int32) (p2 : Int32) (p3 : Int32) : pk (f_X2_readNumber_1 h p1 p2 p3) (fun a => KF h a) := by
  unfold f_X2_readNumber_1
  refine pk_if (fun _ => ?_) (fun _ => ?_)
  · refine pk_ob2 (pk_mono (w_f_X7_kind h) (fun _ k => KF_fr k (by decide))) (fun r_2 h_2 k_1 => ?_)
    replace k_1 := KF_trans (KF_refl h) k_1
    refine pk_if (fun _ => ?_) (fun _ => ?_)
    · refine pk_ob2 (pk_mono (w_f_X7_value h_2) (fun _ k => KF_fr k (by decide))) (fun r_4 h_4 k_2 => ?_)
      replace k_2 := KF_trans k_1 k_2
      refine pk_if (fun _ => ?_) (fun _ => ?_)
      · exact pk_mono (kf_f_X2_readNumber_1_43 h_4) (fun _ k => KF_trans k_2 k)
      · refine pk_ob2 (pk_mono (w_f_X7_value h_4) (fun _ k => KF_fr k (by decide))) (fun r_6 h_6 k_3 => ?_)
        replace k_3 := KF_trans k_2 k_3
        refine pk_if (fun _ => ?_) (fun _ => ?_)
        · refine pk_ob2 (pk_mono (w_f_X7_value h_6) (fun _ k => KF_fr k (by decide))) (fun r_8 h_8 k_4 => ?_)
          replace k_4 := KF_trans k_3 k_4
          refine pk_ob1 (pk_mono (w_f_X6_setClause_1 h_8 (eI h_6 10 1) p1 r_8) (fun _ k => KF_fr k (by decide))) (fun h_9 k_5 => ?_)
          replace k_5 := KF_trans k_4 k_5
          refine pk_ob1 (pk_mono (w_f_X7_advance h_9) (fun _ k => KF_fr k (by decide))) (fun h_10 k_6 => ?_)
          replace k_6 := KF_trans k_5 k_6
          exact pk_mono (pk_mono (w_f_X2_readNumber_1_69 h_10) (fun _ k => KF_fr k (by decide))) (fun _ k => KF_trans k_6 k)
        · exact pk_mono (kf_f_X2_readNumber_1_43 h_6) (fun _ k => KF_trans k_3 k)
    · refine pk_ob1 (kf_f_X2_fail h_2 1) (fun h_11 k_7 => ?_)
      replace k_7 := KF_trans k_1 k_7
      exact pk_mono (pk_mono (w_f_X2_readNumber_1_69 h_11) (fun _ k => KF_fr k (by decide))) (fun _ k => KF_trans k_7 k)
  · exact pk_some (KF_refl h)
theorem kf_f_X2_readDeed_1 (h : HS) (p1 : Int32) : pk (f_X2_readDeed_1 h p1) (fun a => KF h a) := by
  unfold f_X2_readDeed_1
  refine pk_if (fun _ => ?_) (fun _ => ?_)
  · refine pk_ob1 (kf_f_X2_readNumber_1 h 1 1 99) (fun h_11 k_1 => ?_)
    replace k_1 := KF_trans (KF_refl h) k_1
    exact pk_some k_1
  · refine pk_ob1 (kf_f_X2_readNumber_1 h 1 0 9) (fun h_2 k_2 => ?_)
    replace k_2 := KF_trans (KF_refl h) k_2
    refine pk_if (fun _ => ?_) (fun _ => ?_)
    · refine pk_ob1 (kf_f_X2_expect h_2 24) (fun h_7 k_3 => ?_)
      replace k_3 := KF_trans k_2 k_3
      refine pk_ob1 (kf_f_X2_readNumber_1 h_7 2 0 5) (fun h_8 k_4 => ?_)
      replace k_4 := KF_trans k_3 k_4
      refine pk_ob1 (kf_f_X2_expect h_8 33) (fun h_9 k_5 => ?_)
      replace k_5 := KF_trans k_4 k_5
      refine pk_ob1 (kf_f_X2_readNumber_1 h_9 3 0 2) (fun h_10 k_6 => ?_)
      replace k_6 := KF_trans k_5 k_6
      exact pk_mono (pk_mono (w_f_X2_readDeed_1_90 h_10) (fun _ k => KF_fr k (by decide))) (fun _ k => KF_trans k_6 k)
    · refine pk_if (fun _ => ?_) (fun _ => ?_)
      · refine pk_ob1 (kf_f_X2_expect h_2 25) (fun h_5 k_7 => ?_)
        replace k_7 := KF_trans k_2 k_7
        refine pk_ob1 (kf_f_X2_readNumber_1 h_5 2 0 3) (fun h_6 k_8 => ?_)
        replace k_8 := KF_trans k_7 k_8
        exact pk_mono (pk_mono (w_f_X2_readDeed_1_90 h_6) (fun _ k => KF_fr k (by decide))) (fun _ k => KF_trans k_8 k)
      · exact pk_mono (pk_mono (w_f_X2_readDeed_1_90 h_2) (fun _ k => KF_fr k (by decide))) (fun _ k => KF_trans k_2 k)
theorem kf_f_X2_readLevel_1_105 (kR_X2_readLevel : HS → Int32 → Int32 → Option HS) (hk_kR_X2_readLevel : ∀ (h : HS) (x0 : Int32) (x1 : Int32), pk (kR_X2_readLevel h x0 x1) (fun a => KF h a)) (kR_X2_readAsk : HS → Int32 → Option HS) (hk_kR_X2_readAsk : ∀ (h : HS) (x0 : Int32), pk (kR_X2_readAsk h x0) (fun a => KF h a)) (kR_X2_readOne : HS → Int32 → Option HS) (hk_kR_X2_readOne : ∀ (h : HS) (x0 : Int32), pk (kR_X2_readOne h x0) (fun a => KF h a)) (h : HS) : pk (f_X2_readLevel_1_105 kR_X2_readLevel kR_X2_readAsk kR_X2_readOne h) (fun a => KF h a) := by
  unfold f_X2_readLevel_1_105
  exact pk_some (KF_refl h)
theorem kf_f_X2_readLevel_1_42 (kR_X2_readLevel : HS → Int32 → Int32 → Option HS) (hk_kR_X2_readLevel : ∀ (h : HS) (x0 : Int32) (x1 : Int32), pk (kR_X2_readLevel h x0 x1) (fun a => KF h a)) (kR_X2_readAsk : HS → Int32 → Option HS) (hk_kR_X2_readAsk : ∀ (h : HS) (x0 : Int32), pk (kR_X2_readAsk h x0) (fun a => KF h a)) (kR_X2_readOne : HS → Int32 → Option HS) (hk_kR_X2_readOne : ∀ (h : HS) (x0 : Int32), pk (kR_X2_readOne h x0) (fun a => KF h a)) : ∀ (n : Nat) (h : HS) (x3 : Int32) (x4 : Int32) (x5 : Int32), pk (f_X2_readLevel_1_42 kR_X2_readLevel kR_X2_readAsk kR_X2_readOne n h x3 x4 x5) (fun a => KF h a) := by
  intro n
  induction n with
  | zero => intro h x3 x4 x5; exact pk_none
  | succ n ih =>
    intro h x3 x4 x5
    rw [f_X2_readLevel_1_42_s]
    refine pk_if (fun _ => ?_) (fun _ => ?_)
    · exact pk_mono (kf_f_X2_readLevel_1_105 kR_X2_readLevel hk_kR_X2_readLevel kR_X2_readAsk hk_kR_X2_readAsk kR_X2_readOne hk_kR_X2_readOne h) (fun _ k => KF_trans (KF_refl h) k)
    · refine pk_if (fun _ => ?_) (fun _ => ?_)
      · refine pk_ob2 (pk_mono (w_f_X7_kind h) (fun _ k => KF_fr k (by decide))) (fun r_8 h_8 k_1 => ?_)
        replace k_1 := KF_trans (KF_refl h) k_1
        refine pk_obf (fun r_9 => ?_)
        refine pk_if (fun _ => ?_) (fun _ => ?_)
        · refine pk_ob2 (pk_mono (w_f_X7_kind h_8) (fun _ k => KF_fr k (by decide))) (fun r_11 h_11 k_2 => ?_)
          replace k_2 := KF_trans k_1 k_2
          refine pk_ob1 (pk_mono (w_f_X7_advance h_11) (fun _ k => KF_fr k (by decide))) (fun h_12 k_3 => ?_)
          replace k_3 := KF_trans k_2 k_3
          refine pk_ob1 (hk_kR_X2_readLevel h_12 (x3 + 1) x4) (fun h_13 k_4 => ?_)
          replace k_4 := KF_trans k_3 k_4
          refine pk_ob1 (pk_mono (w_f_X6_addStep_1 h_13 (20000 + r_11)) (fun _ k => KF_fr k (by decide))) (fun h_14 k_5 => ?_)
          replace k_5 := KF_trans k_4 k_5
          exact pk_mono (ih h_14 x3 x4 (x5 + 1)) (fun _ k => KF_trans k_5 k)
        · exact pk_mono (kf_f_X2_readLevel_1_105 kR_X2_readLevel hk_kR_X2_readLevel kR_X2_readAsk hk_kR_X2_readAsk kR_X2_readOne hk_kR_X2_readOne h_8) (fun _ k => KF_trans k_1 k)
      · exact pk_mono (kf_f_X2_readLevel_1_105 kR_X2_readLevel hk_kR_X2_readLevel kR_X2_readAsk hk_kR_X2_readAsk kR_X2_readOne hk_kR_X2_readOne h) (fun _ k => KF_trans (KF_refl h) k)
theorem kf_f_X2_readLevel_1_b (kR_X2_readLevel : HS → Int32 → Int32 → Option HS) (hk_kR_X2_readLevel : ∀ (h : HS) (x0 : Int32) (x1 : Int32), pk (kR_X2_readLevel h x0 x1) (fun a => KF h a)) (kR_X2_readAsk : HS → Int32 → Option HS) (hk_kR_X2_readAsk : ∀ (h : HS) (x0 : Int32), pk (kR_X2_readAsk h x0) (fun a => KF h a)) (kR_X2_readOne : HS → Int32 → Option HS) (hk_kR_X2_readOne : ∀ (h : HS) (x0 : Int32), pk (kR_X2_readOne h x0) (fun a => KF h a)) (h : HS) (p1 : Int32) (p2 : Int32) : pk (f_X2_readLevel_1_b kR_X2_readLevel kR_X2_readAsk kR_X2_readOne h p1 p2) (fun a => KF h a) := by
  unfold f_X2_readLevel_1_b
  refine pk_if (fun _ => ?_) (fun _ => ?_)
  · refine pk_ob1 (hk_kR_X2_readAsk h p2) (fun h_5 k_1 => ?_)
    replace k_1 := KF_trans (KF_refl h) k_1
    exact pk_some k_1
  · refine pk_if (fun _ => ?_) (fun _ => ?_)
    · refine pk_ob1 (hk_kR_X2_readOne h p2) (fun h_4 k_2 => ?_)
      replace k_2 := KF_trans (KF_refl h) k_2
      exact pk_some k_2
    · refine pk_ob1 (hk_kR_X2_readLevel h (p1 + 1) p2) (fun h_3 k_3 => ?_)
      replace k_3 := KF_trans (KF_refl h) k_3
      exact pk_mono (kf_f_X2_readLevel_1_42 kR_X2_readLevel hk_kR_X2_readLevel kR_X2_readAsk hk_kR_X2_readAsk kR_X2_readOne hk_kR_X2_readOne 8589934592 h_3 p1 p2 0) (fun _ k => KF_trans k_3 k)
theorem kf_f_X2_readAsk_1_97 (kR_X2_readLevel : HS → Int32 → Int32 → Option HS) (hk_kR_X2_readLevel : ∀ (h : HS) (x0 : Int32) (x1 : Int32), pk (kR_X2_readLevel h x0 x1) (fun a => KF h a)) (kR_X2_readAsk : HS → Int32 → Option HS) (hk_kR_X2_readAsk : ∀ (h : HS) (x0 : Int32), pk (kR_X2_readAsk h x0) (fun a => KF h a)) (kR_X2_readOne : HS → Int32 → Option HS) (hk_kR_X2_readOne : ∀ (h : HS) (x0 : Int32), pk (kR_X2_readOne h x0) (fun a => KF h a)) (h : HS) : pk (f_X2_readAsk_1_97 kR_X2_readLevel kR_X2_readAsk kR_X2_readOne h) (fun a => KF h a) := by
  unfold f_X2_readAsk_1_97
  exact pk_some (KF_refl h)
theorem kf_f_X2_readAsk_1_68 (kR_X2_readLevel : HS → Int32 → Int32 → Option HS) (hk_kR_X2_readLevel : ∀ (h : HS) (x0 : Int32) (x1 : Int32), pk (kR_X2_readLevel h x0 x1) (fun a => KF h a)) (kR_X2_readAsk : HS → Int32 → Option HS) (hk_kR_X2_readAsk : ∀ (h : HS) (x0 : Int32), pk (kR_X2_readAsk h x0) (fun a => KF h a)) (kR_X2_readOne : HS → Int32 → Option HS) (hk_kR_X2_readOne : ∀ (h : HS) (x0 : Int32), pk (kR_X2_readOne h x0) (fun a => KF h a)) (h : HS) (x3 : Int32) (x4 : Int32) : pk (f_X2_readAsk_1_68 kR_X2_readLevel kR_X2_readAsk kR_X2_readOne h x3 x4) (fun a => KF h a) := by
  unfold f_X2_readAsk_1_68
  refine pk_if (fun _ => ?_) (fun _ => ?_)
  · refine pk_ob1 (pk_mono (w_f_X7_advance h) (fun _ k => KF_fr k (by decide))) (fun h_13 k_1 => ?_)
    replace k_1 := KF_trans (KF_refl h) k_1
    refine pk_ob1 (hk_kR_X2_readLevel h_13 3 x3) (fun h_14 k_2 => ?_)
    replace k_2 := KF_trans k_1 k_2
    refine pk_ob1 (pk_mono (w_f_X6_addStep_1 h_14 (20000 + x4)) (fun _ k => KF_fr k (by decide))) (fun h_15 k_3 => ?_)
    replace k_3 := KF_trans k_2 k_3
    exact pk_mono (kf_f_X2_readAsk_1_97 kR_X2_readLevel hk_kR_X2_readLevel kR_X2_readAsk hk_kR_X2_readAsk kR_X2_readOne hk_kR_X2_readOne h_15) (fun _ k => KF_trans k_3 k)
  · exact pk_mono (kf_f_X2_readAsk_1_97 kR_X2_readLevel hk_kR_X2_readLevel kR_X2_readAsk hk_kR_X2_readAsk kR_X2_readOne hk_kR_X2_readOne h) (fun _ k => KF_trans (KF_refl h) k)
theorem kf_f_X2_readAsk_1_62 (kR_X2_readLevel : HS → Int32 → Int32 → Option HS) (hk_kR_X2_readLevel : ∀ (h : HS) (x0 : Int32) (x1 : Int32), pk (kR_X2_readLevel h x0 x1) (fun a => KF h a)) (kR_X2_readAsk : HS → Int32 → Option HS) (hk_kR_X2_readAsk : ∀ (h : HS) (x0 : Int32), pk (kR_X2_readAsk h x0) (fun a => KF h a)) (kR_X2_readOne : HS → Int32 → Option HS) (hk_kR_X2_readOne : ∀ (h : HS) (x0 : Int32), pk (kR_X2_readOne h x0) (fun a => KF h a)) (h : HS) (x3 : Int32) (x4 : Int32) : pk (f_X2_readAsk_1_62 kR_X2_readLevel kR_X2_readAsk kR_X2_readOne h x3 x4) (fun a => KF h a) := by
  unfold f_X2_readAsk_1_62
  refine pk_ob1 (kf_f_X2_fail h 1) (fun h_11 k_1 => ?_)
  replace k_1 := KF_trans (KF_refl h) k_1
  exact pk_mono (kf_f_X2_readAsk_1_68 kR_X2_readLevel hk_kR_X2_readLevel kR_X2_readAsk hk_kR_X2_readAsk kR_X2_readOne hk_kR_X2_readOne h_11 x3 x4) (fun _ k => KF_trans k_1 k)
theorem kf_f_X2_readAsk_1_34 (kR_X2_readLevel : HS → Int32 → Int32 → Option HS) (hk_kR_X2_readLevel : ∀ (h : HS) (x0 : Int32) (x1 : Int32), pk (kR_X2_readLevel h x0 x1) (fun a => KF h a)) (kR_X2_readAsk : HS → Int32 → Option HS) (hk_kR_X2_readAsk : ∀ (h : HS) (x0 : Int32), pk (kR_X2_readAsk h x0) (fun a => KF h a)) (kR_X2_readOne : HS → Int32 → Option HS) (hk_kR_X2_readOne : ∀ (h : HS) (x0 : Int32), pk (kR_X2_readOne h x0) (fun a => KF h a)) (h : HS) : pk (f_X2_readAsk_1_34 kR_X2_readLevel kR_X2_readAsk kR_X2_readOne h) (fun a => KF h a) := by
  unfold f_X2_readAsk_1_34
  exact pk_some (KF_refl h)
theorem kf_f_X2_readAsk_1_b (kR_X2_readLevel : HS → Int32 → Int32 → Option HS) (hk_kR_X2_readLevel : ∀ (h : HS) (x0 : Int32) (x1 : Int32), pk (kR_X2_readLevel h x0 x1) (fun a => KF h a)) (kR_X2_readAsk : HS → Int32 → Option HS) (hk_kR_X2_readAsk : ∀ (h : HS) (x0 : Int32), pk (kR_X2_readAsk h x0) (fun a => KF h a)) (kR_X2_readOne : HS → Int32 → Option HS) (hk_kR_X2_readOne : ∀ (h : HS) (x0 : Int32), pk (kR_X2_readOne h x0) (fun a => KF h a)) (h : HS) (p1 : Int32) : pk (f_X2_readAsk_1_b kR_X2_readLevel kR_X2_readAsk kR_X2_readOne h p1) (fun a => KF h a) := by
  unfold f_X2_readAsk_1_b
  refine pk_ob2 (pk_mono (w_f_X7_kind h) (fun _ k => KF_fr k (by decide))) (fun r_1 h_1 k_1 => ?_)
  replace k_1 := KF_trans (KF_refl h) k_1
  refine pk_if (fun _ => ?_) (fun _ => ?_)
  · refine pk_ob2 (kf_f_X2_opens h_1 p1) (fun r_7 h_7 k_2 => ?_)
    replace k_2 := KF_trans k_1 k_2
    refine pk_if (fun _ => ?_) (fun _ => ?_)
    · exact pk_mono (kf_f_X2_readAsk_1_34 kR_X2_readLevel hk_kR_X2_readLevel kR_X2_readAsk hk_kR_X2_readAsk kR_X2_readOne hk_kR_X2_readOne h_7) (fun _ k => KF_trans k_2 k)
    · refine pk_ob1 (hk_kR_X2_readAsk h_7 (p1 + 1)) (fun h_9 k_3 => ?_)
      replace k_3 := KF_trans k_2 k_3
      refine pk_ob1 (pk_mono (w_f_X6_addStep_1 h_9 20028) (fun _ k => KF_fr k (by decide))) (fun h_10 k_4 => ?_)
      replace k_4 := KF_trans k_3 k_4
      exact pk_mono (kf_f_X2_readAsk_1_34 kR_X2_readLevel hk_kR_X2_readLevel kR_X2_readAsk hk_kR_X2_readAsk kR_X2_readOne hk_kR_X2_readOne h_10) (fun _ k => KF_trans k_4 k)
  · refine pk_ob1 (hk_kR_X2_readLevel h_1 3 p1) (fun h_3 k_5 => ?_)
    replace k_5 := KF_trans k_1 k_5
    refine pk_ob2 (pk_mono (w_f_X7_kind h_3) (fun _ k => KF_fr k (by decide))) (fun r_4 h_4 k_6 => ?_)
    replace k_6 := KF_trans k_5 k_6
    refine pk_if (fun _ => ?_) (fun _ => ?_)
    · exact pk_mono (kf_f_X2_readAsk_1_62 kR_X2_readLevel hk_kR_X2_readLevel kR_X2_readAsk hk_kR_X2_readAsk kR_X2_readOne hk_kR_X2_readOne h_4 p1 r_4) (fun _ k => KF_trans k_6 k)
    · refine pk_if (fun _ => ?_) (fun _ => ?_)
      · exact pk_mono (kf_f_X2_readAsk_1_68 kR_X2_readLevel hk_kR_X2_readLevel kR_X2_readAsk hk_kR_X2_readAsk kR_X2_readOne hk_kR_X2_readOne h_4 p1 r_4) (fun _ k => KF_trans k_6 k)
      · exact pk_mono (kf_f_X2_readAsk_1_62 kR_X2_readLevel hk_kR_X2_readLevel kR_X2_readAsk hk_kR_X2_readAsk kR_X2_readOne hk_kR_X2_readOne h_4 p1 r_4) (fun _ k => KF_trans k_6 k)
theorem kf_f_X2_readOne_1_121 (kR_X2_readLevel : HS → Int32 → Int32 → Option HS) (hk_kR_X2_readLevel : ∀ (h : HS) (x0 : Int32) (x1 : Int32), pk (kR_X2_readLevel h x0 x1) (fun a => KF h a)) (kR_X2_readAsk : HS → Int32 → Option HS) (hk_kR_X2_readAsk : ∀ (h : HS) (x0 : Int32), pk (kR_X2_readAsk h x0) (fun a => KF h a)) (kR_X2_readOne : HS → Int32 → Option HS) (hk_kR_X2_readOne : ∀ (h : HS) (x0 : Int32), pk (kR_X2_readOne h x0) (fun a => KF h a)) (h : HS) : pk (f_X2_readOne_1_121 kR_X2_readLevel kR_X2_readAsk kR_X2_readOne h) (fun a => KF h a) := by
  unfold f_X2_readOne_1_121
  exact pk_some (KF_refl h)
theorem kf_f_X2_readOne_1_44 (kR_X2_readLevel : HS → Int32 → Int32 → Option HS) (hk_kR_X2_readLevel : ∀ (h : HS) (x0 : Int32) (x1 : Int32), pk (kR_X2_readLevel h x0 x1) (fun a => KF h a)) (kR_X2_readAsk : HS → Int32 → Option HS) (hk_kR_X2_readAsk : ∀ (h : HS) (x0 : Int32), pk (kR_X2_readAsk h x0) (fun a => KF h a)) (kR_X2_readOne : HS → Int32 → Option HS) (hk_kR_X2_readOne : ∀ (h : HS) (x0 : Int32), pk (kR_X2_readOne h x0) (fun a => KF h a)) (h : HS) (x3 : Int32) (x4 : Int32) : pk (f_X2_readOne_1_44 kR_X2_readLevel kR_X2_readAsk kR_X2_readOne h x3 x4) (fun a => KF h a) := by
  unfold f_X2_readOne_1_44
  refine pk_if (fun _ => ?_) (fun _ => ?_)
  · refine pk_ob2 (kf_f_X2_opens h x3) (fun r_14 h_14 k_1 => ?_)
    replace k_1 := KF_trans (KF_refl h) k_1
    refine pk_if (fun _ => ?_) (fun _ => ?_)
    · exact pk_mono (kf_f_X2_readOne_1_121 kR_X2_readLevel hk_kR_X2_readLevel kR_X2_readAsk hk_kR_X2_readAsk kR_X2_readOne hk_kR_X2_readOne h_14) (fun _ k => KF_trans k_1 k)
    · refine pk_ob1 (hk_kR_X2_readLevel h_14 3 (x3 + 1)) (fun h_16 k_2 => ?_)
      replace k_2 := KF_trans k_1 k_2
      refine pk_ob1 (kf_f_X2_expect h_16 14) (fun h_17 k_3 => ?_)
      replace k_3 := KF_trans k_2 k_3
      exact pk_mono (kf_f_X2_readOne_1_121 kR_X2_readLevel hk_kR_X2_readLevel kR_X2_readAsk hk_kR_X2_readAsk kR_X2_readOne hk_kR_X2_readOne h_17) (fun _ k => KF_trans k_3 k)
  · refine pk_if (fun _ => ?_) (fun _ => ?_)
    · refine pk_ob2 (kf_f_X2_opens h x3) (fun r_10 h_10 k_4 => ?_)
      replace k_4 := KF_trans (KF_refl h) k_4
      refine pk_if (fun _ => ?_) (fun _ => ?_)
      · exact pk_mono (kf_f_X2_readOne_1_121 kR_X2_readLevel hk_kR_X2_readLevel kR_X2_readAsk hk_kR_X2_readAsk kR_X2_readOne hk_kR_X2_readOne h_10) (fun _ k => KF_trans k_4 k)
      · refine pk_ob1 (hk_kR_X2_readOne h_10 (x3 + 1)) (fun h_12 k_5 => ?_)
        replace k_5 := KF_trans k_4 k_5
        refine pk_ob1 (pk_mono (w_f_X6_addStep_1 h_12 20038) (fun _ k => KF_fr k (by decide))) (fun h_13 k_6 => ?_)
        replace k_6 := KF_trans k_5 k_6
        exact pk_mono (kf_f_X2_readOne_1_121 kR_X2_readLevel hk_kR_X2_readLevel kR_X2_readAsk hk_kR_X2_readAsk kR_X2_readOne hk_kR_X2_readOne h_13) (fun _ k => KF_trans k_6 k)
    · refine pk_ob1 (kf_f_X2_fail h 1) (fun h_9 k_7 => ?_)
      replace k_7 := KF_trans (KF_refl h) k_7
      exact pk_mono (kf_f_X2_readOne_1_121 kR_X2_readLevel hk_kR_X2_readLevel kR_X2_readAsk hk_kR_X2_readAsk kR_X2_readOne hk_kR_X2_readOne h_9) (fun _ k => KF_trans k_7 k)
theorem kf_f_X2_readOne_1_b (kR_X2_readLevel : HS → Int32 → Int32 → Option HS) (hk_kR_X2_readLevel : ∀ (h : HS) (x0 : Int32) (x1 : Int32), pk (kR_X2_readLevel h x0 x1) (fun a => KF h a)) (kR_X2_readAsk : HS → Int32 → Option HS) (hk_kR_X2_readAsk : ∀ (h : HS) (x0 : Int32), pk (kR_X2_readAsk h x0) (fun a => KF h a)) (kR_X2_readOne : HS → Int32 → Option HS) (hk_kR_X2_readOne : ∀ (h : HS) (x0 : Int32), pk (kR_X2_readOne h x0) (fun a => KF h a)) (h : HS) (p1 : Int32) : pk (f_X2_readOne_1_b kR_X2_readLevel kR_X2_readAsk kR_X2_readOne h p1) (fun a => KF h a) := by
  unfold f_X2_readOne_1_b
  refine pk_ob2 (pk_mono (w_f_X7_kind h) (fun _ k => KF_fr k (by decide))) (fun r_1 h_1 k_1 => ?_)
  replace k_1 := KF_trans (KF_refl h) k_1
  refine pk_if (fun _ => ?_) (fun _ => ?_)
  · refine pk_ob1 (kf_f_X2_readValue_1 h_1) (fun h_6 k_2 => ?_)
    replace k_2 := KF_trans k_1 k_2
    exact pk_mono (kf_f_X2_readOne_1_121 kR_X2_readLevel hk_kR_X2_readLevel kR_X2_readAsk hk_kR_X2_readAsk kR_X2_readOne hk_kR_X2_readOne h_6) (fun _ k => KF_trans k_2 k)
  · refine pk_if (fun _ => ?_) (fun _ => ?_)
    · exact pk_mono (kf_f_X2_readOne_1_44 kR_X2_readLevel hk_kR_X2_readLevel kR_X2_readAsk hk_kR_X2_readAsk kR_X2_readOne hk_kR_X2_readOne h_1 p1 r_1) (fun _ k => KF_trans k_1 k)
    · refine pk_if (fun _ => ?_) (fun _ => ?_)
      · exact pk_mono (kf_f_X2_readOne_1_44 kR_X2_readLevel hk_kR_X2_readLevel kR_X2_readAsk hk_kR_X2_readAsk kR_X2_readOne hk_kR_X2_readOne h_1 p1 r_1) (fun _ k => KF_trans k_1 k)
      · refine pk_ob1 (kf_f_X2_readName_1 h_1) (fun h_5 k_3 => ?_)
        replace k_3 := KF_trans k_1 k_3
        exact pk_mono (kf_f_X2_readOne_1_121 kR_X2_readLevel hk_kR_X2_readLevel kR_X2_readAsk hk_kR_X2_readAsk kR_X2_readOne hk_kR_X2_readOne h_5) (fun _ k => KF_trans k_3 k)
theorem kf_G_read_1 : ∀ (n t : Nat) (h : HS) (p1 p2 : Int32), pk (G_read_1 n t h p1 p2) (fun a => KF h a) := by
  intro n
  induction n with
  | zero => intro t h p1 p2; exact (by simp [G_read_1]; exact pk_none)
  | succ n ih =>
    intro t h p1 p2
    match t with
    | 0 => exact kf_f_X2_readLevel_1_b (fun h p1 p2 => G_read_1 n 0 h p1 p2) (fun h p1 p2 => ih 0 h p1 p2) (fun h p1 => G_read_1 n 1 h p1 0) (fun h p1 => ih 1 h p1 0) (fun h p1 => G_read_1 n 2 h p1 0) (fun h p1 => ih 2 h p1 0) h p1 p2
    | 1 => exact kf_f_X2_readAsk_1_b (fun h p1 p2 => G_read_1 n 0 h p1 p2) (fun h p1 p2 => ih 0 h p1 p2) (fun h p1 => G_read_1 n 1 h p1 0) (fun h p1 => ih 1 h p1 0) (fun h p1 => G_read_1 n 2 h p1 0) (fun h p1 => ih 2 h p1 0) h p1
    | t + 2 => exact kf_f_X2_readOne_1_b (fun h p1 p2 => G_read_1 n 0 h p1 p2) (fun h p1 p2 => ih 0 h p1 p2) (fun h p1 => G_read_1 n 1 h p1 0) (fun h p1 => ih 1 h p1 0) (fun h p1 => G_read_1 n 2 h p1 0) (fun h p1 => ih 2 h p1 0) h p1
theorem kf_f_X2_readClause_1_25 (h : HS) : pk (f_X2_readClause_1_25 h) (fun a => KF h a) := by
  unfold f_X2_readClause_1_25
  refine pk_ob1 (kf_f_X2_fail h 1) (fun h_15 k_1 => ?_)
  replace k_1 := KF_trans (KF_refl h) k_1
  exact pk_mono (pk_mono (w_f_X2_readClause_1_158 h_15) (fun _ k => KF_fr k (by decide))) (fun _ k => KF_trans k_1 k)
theorem kf_f_X2_readClause_1_141 (h : HS) : pk (f_X2_readClause_1_141 h) (fun a => KF h a) := by
  unfold f_X2_readClause_1_141
  refine pk_ob1 (kf_f_X2_expect h 15) (fun h_16 k_1 => ?_)
  replace k_1 := KF_trans (KF_refl h) k_1
  exact pk_mono (pk_mono (w_f_X2_readClause_1_158 (sI h_16 10 1 ((eI h_16 10 1) + 1))) (fun _ k => KF_fr k (by decide))) (fun _ k => KF_trans (KF_trans k_1 (KF_fr (Fr_sI (S := [(0, 10, 1)]) (by decide) (Fr_refl _ _)) (by decide))) k)
theorem kf_f_X2_readClause_1_119 (h : HS) (y0 : Int32) : pk (f_X2_readClause_1_119 h y0) (fun a => KF h a) := by
  unfold f_X2_readClause_1_119
  refine pk_ob1 (kf_G_read_1 200 0 h y0 0) (fun h_17 k_1 => ?_)
  replace k_1 := KF_trans (KF_refl h) k_1
  refine pk_ob1 (pk_mono (w_f_X6_closeLaw_1 h_17 (eI h_17 5 2)) (fun _ k => KF_fr k (by decide))) (fun h_18 k_2 => ?_)
  replace k_2 := KF_trans k_1 k_2
  exact pk_mono (kf_f_X2_readClause_1_141 h_18) (fun _ k => KF_trans k_2 k)
theorem kf_f_X2_readClause_1 (h : HS) : pk (f_X2_readClause_1 h) (fun a => KF h a) := by
  unfold f_X2_readClause_1
  refine pk_ob2 (pk_mono (w_f_X7_kind h) (fun _ k => KF_fr k (by decide))) (fun r_1 h_1 k_1 => ?_)
  replace k_1 := KF_trans (KF_refl h) k_1
  refine pk_if (fun _ => ?_) (fun _ => ?_)
  · exact pk_mono (kf_f_X2_readClause_1_25 (sI h_1 5 2 (r_1 - 16))) (fun _ k => KF_trans (KF_trans k_1 (KF_fr (Fr_sI (S := [(0, 5, 2)]) (by decide) (Fr_refl _ _)) (by decide))) k)
  · refine pk_if (fun _ => ?_) (fun _ => ?_)
    · refine pk_ob2 (pk_mono (w_f_X6_hasLaw_1 (sI h_1 5 2 (r_1 - 16)) (r_1 - 16)) (fun _ k => KF_fr k (by decide))) (fun r_4 h_4 k_2 => ?_)
      replace k_2 := KF_trans (KF_trans k_1 (KF_fr (Fr_sI (S := [(0, 5, 2)]) (by decide) (Fr_refl _ _)) (by decide))) k_2
      refine pk_if (fun _ => ?_) (fun _ => ?_)
      · refine pk_if (fun _ => ?_) (fun _ => ?_)
        · refine pk_ob1 (pk_mono (w_f_X6_setClause_1 h_4 (eI h_4 10 1) 0 r_1) (fun _ k => KF_fr k (by decide))) (fun h_7 k_3 => ?_)
          replace k_3 := KF_trans k_2 k_3
          refine pk_ob1 (pk_mono (w_f_X7_advance h_7) (fun _ k => KF_fr k (by decide))) (fun h_8 k_4 => ?_)
          replace k_4 := KF_trans k_3 k_4
          refine pk_if (fun _ => ?_) (fun _ => ?_)
          · refine pk_ob1 (kf_f_X2_readDeed_1 h_8 r_1) (fun h_10 k_5 => ?_)
            replace k_5 := KF_trans k_4 k_5
            exact pk_mono (kf_f_X2_readClause_1_141 h_10) (fun _ k => KF_trans k_5 k)
          · refine pk_ob1 (pk_mono (w_f_X6_beginLaw_1 h_8 (eI h_8 5 2)) (fun _ k => KF_fr k (by decide))) (fun h_11 k_6 => ?_)
            replace k_6 := KF_trans k_4 k_6
            refine pk_if (fun _ => ?_) (fun _ => ?_)
            · exact pk_mono (kf_f_X2_readClause_1_119 h_11 0) (fun _ k => KF_trans k_6 k)
            · exact pk_mono (kf_f_X2_readClause_1_119 h_11 3) (fun _ k => KF_trans k_6 k)
        · refine pk_ob1 (kf_f_X2_fail h_4 6) (fun h_13 k_7 => ?_)
          replace k_7 := KF_trans k_2 k_7
          exact pk_mono (pk_mono (w_f_X2_readClause_1_158 h_13) (fun _ k => KF_fr k (by decide))) (fun _ k => KF_trans k_7 k)
      · refine pk_ob1 (kf_f_X2_fail h_4 4) (fun h_14 k_8 => ?_)
        replace k_8 := KF_trans k_2 k_8
        exact pk_mono (pk_mono (w_f_X2_readClause_1_158 h_14) (fun _ k => KF_fr k (by decide))) (fun _ k => KF_trans k_8 k)
    · exact pk_mono (kf_f_X2_readClause_1_25 (sI h_1 5 2 (r_1 - 16))) (fun _ k => KF_trans (KF_trans k_1 (KF_fr (Fr_sI (S := [(0, 5, 2)]) (by decide) (Fr_refl _ _)) (by decide))) k)
theorem kf_f_X2_readValue_2 (h : HS) : pk (f_X2_readValue_2 h) (fun a => KF h a) := by
  unfold f_X2_readValue_2
  refine pk_ob2 (pk_mono (w_f_X7_value h) (fun _ k => KF_fr k (by decide))) (fun r_1 h_1 k_1 => ?_)
  replace k_1 := KF_trans (KF_refl h) k_1
  refine pk_if (fun _ => ?_) (fun _ => ?_)
  · refine pk_ob2 (pk_mono (w_f_X7_value h_1) (fun _ k => KF_fr k (by decide))) (fun r_3 h_3 k_2 => ?_)
    replace k_2 := KF_trans k_1 k_2
    refine pk_ob1 (pk_mono (w_f_X6_addStep_2 h_3 r_3) (fun _ k => KF_fr k (by decide))) (fun h_4 k_3 => ?_)
    replace k_3 := KF_trans k_2 k_3
    refine pk_ob1 (pk_mono (w_f_X7_advance h_4) (fun _ k => KF_fr k (by decide))) (fun h_5 k_4 => ?_)
    replace k_4 := KF_trans k_3 k_4
    exact pk_some k_4
  · refine pk_ob1 (kf_f_X2_fail h_1 2) (fun h_6 k_5 => ?_)
    replace k_5 := KF_trans k_1 k_5
    exact pk_some k_5
theorem kf_f_X2_readName_2 (h : HS) : pk (f_X2_readName_2 h) (fun a => KF h a) := by
  unfold f_X2_readName_2
  refine pk_ob2 (pk_mono (w_f_X7_kind h) (fun _ k => KF_fr k (by decide))) (fun r_1 h_1 k_1 => ?_)
  replace k_1 := KF_trans (KF_refl h) k_1
  refine pk_if (fun _ => ?_) (fun _ => ?_)
  · exact pk_mono (pk_mono (w_f_X2_readName_2_31 h_1) (fun _ k => KF_fr k (by decide))) (fun _ k => KF_trans k_1 k)
  · refine pk_if (fun _ => ?_) (fun _ => ?_)
    · exact pk_mono (pk_mono (w_f_X2_readName_2_31 h_1) (fun _ k => KF_fr k (by decide))) (fun _ k => KF_trans k_1 k)
    · refine pk_if (fun _ => ?_) (fun _ => ?_)
      · exact pk_mono (pk_mono (w_f_X2_readName_2_31 h_1) (fun _ k => KF_fr k (by decide))) (fun _ k => KF_trans k_1 k)
      · refine pk_ob1 (kf_f_X2_fail h_1 5) (fun h_5 k_2 => ?_)
        replace k_2 := KF_trans k_1 k_2
        exact pk_some k_2
theorem kf_f_X2_readNumber_2_43 (h : HS) : pk (f_X2_readNumber_2_43 h) (fun a => KF h a) := by
  unfold f_X2_readNumber_2_43
  refine pk_ob1 (kf_f_X2_fail h 2) (fun h_12 k_1 => ?_)
  replace k_1 := KF_trans (KF_refl h) k_1
  exact pk_mono (pk_mono (w_f_X2_readNumber_2_69 h_12) (fun _ k => KF_fr k (by decide))) (fun _ k => KF_trans k_1 k)
theorem kf_f_X2_readNumber_2 (h : HS) (p1 : Int32) (p2 : Int32) (p3 : Int32) : pk (f_X2_readNumber_2 h p1 p2 p3) (fun a => KF h a) := by
  unfold f_X2_readNumber_2
  refine pk_if (fun _ => ?_) (fun _ => ?_)
  · refine pk_ob2 (pk_mono (w_f_X7_kind h) (fun _ k => KF_fr k (by decide))) (fun r_2 h_2 k_1 => ?_)
    replace k_1 := KF_trans (KF_refl h) k_1
    refine pk_if (fun _ => ?_) (fun _ => ?_)
    · refine pk_ob2 (pk_mono (w_f_X7_value h_2) (fun _ k => KF_fr k (by decide))) (fun r_4 h_4 k_2 => ?_)
      replace k_2 := KF_trans k_1 k_2
      refine pk_if (fun _ => ?_) (fun _ => ?_)
      · exact pk_mono (kf_f_X2_readNumber_2_43 h_4) (fun _ k => KF_trans k_2 k)
      · refine pk_ob2 (pk_mono (w_f_X7_value h_4) (fun _ k => KF_fr k (by decide))) (fun r_6 h_6 k_3 => ?_)
        replace k_3 := KF_trans k_2 k_3
        refine pk_if (fun _ => ?_) (fun _ => ?_)
        · refine pk_ob2 (pk_mono (w_f_X7_value h_6) (fun _ k => KF_fr k (by decide))) (fun r_8 h_8 k_4 => ?_)
          replace k_4 := KF_trans k_3 k_4
          refine pk_ob1 (pk_mono (w_f_X6_setClause_2 h_8 (eI h_6 11 1) p1 r_8) (fun _ k => KF_fr k (by decide))) (fun h_9 k_5 => ?_)
          replace k_5 := KF_trans k_4 k_5
          refine pk_ob1 (pk_mono (w_f_X7_advance h_9) (fun _ k => KF_fr k (by decide))) (fun h_10 k_6 => ?_)
          replace k_6 := KF_trans k_5 k_6
          exact pk_mono (pk_mono (w_f_X2_readNumber_2_69 h_10) (fun _ k => KF_fr k (by decide))) (fun _ k => KF_trans k_6 k)
        · exact pk_mono (kf_f_X2_readNumber_2_43 h_6) (fun _ k => KF_trans k_3 k)
    · refine pk_ob1 (kf_f_X2_fail h_2 1) (fun h_11 k_7 => ?_)
      replace k_7 := KF_trans k_1 k_7
      exact pk_mono (pk_mono (w_f_X2_readNumber_2_69 h_11) (fun _ k => KF_fr k (by decide))) (fun _ k => KF_trans k_7 k)
  · exact pk_some (KF_refl h)
theorem kf_f_X2_readDeed_2 (h : HS) (p1 : Int32) : pk (f_X2_readDeed_2 h p1) (fun a => KF h a) := by
  unfold f_X2_readDeed_2
  refine pk_if (fun _ => ?_) (fun _ => ?_)
  · refine pk_ob1 (kf_f_X2_readNumber_2 h 1 1 99) (fun h_11 k_1 => ?_)
    replace k_1 := KF_trans (KF_refl h) k_1
    exact pk_some k_1
  · refine pk_ob1 (kf_f_X2_readNumber_2 h 1 0 9) (fun h_2 k_2 => ?_)
    replace k_2 := KF_trans (KF_refl h) k_2
    refine pk_if (fun _ => ?_) (fun _ => ?_)
    · refine pk_ob1 (kf_f_X2_expect h_2 24) (fun h_7 k_3 => ?_)
      replace k_3 := KF_trans k_2 k_3
      refine pk_ob1 (kf_f_X2_readNumber_2 h_7 2 0 5) (fun h_8 k_4 => ?_)
      replace k_4 := KF_trans k_3 k_4
      refine pk_ob1 (kf_f_X2_expect h_8 33) (fun h_9 k_5 => ?_)
      replace k_5 := KF_trans k_4 k_5
      refine pk_ob1 (kf_f_X2_readNumber_2 h_9 3 0 2) (fun h_10 k_6 => ?_)
      replace k_6 := KF_trans k_5 k_6
      exact pk_mono (pk_mono (w_f_X2_readDeed_2_90 h_10) (fun _ k => KF_fr k (by decide))) (fun _ k => KF_trans k_6 k)
    · refine pk_if (fun _ => ?_) (fun _ => ?_)
      · refine pk_ob1 (kf_f_X2_expect h_2 25) (fun h_5 k_7 => ?_)
        replace k_7 := KF_trans k_2 k_7
        refine pk_ob1 (kf_f_X2_readNumber_2 h_5 2 0 3) (fun h_6 k_8 => ?_)
        replace k_8 := KF_trans k_7 k_8
        exact pk_mono (pk_mono (w_f_X2_readDeed_2_90 h_6) (fun _ k => KF_fr k (by decide))) (fun _ k => KF_trans k_8 k)
      · exact pk_mono (pk_mono (w_f_X2_readDeed_2_90 h_2) (fun _ k => KF_fr k (by decide))) (fun _ k => KF_trans k_2 k)
theorem kf_f_X2_readLevel_2_105 (kR_X2_readLevel : HS → Int32 → Int32 → Option HS) (hk_kR_X2_readLevel : ∀ (h : HS) (x0 : Int32) (x1 : Int32), pk (kR_X2_readLevel h x0 x1) (fun a => KF h a)) (kR_X2_readAsk : HS → Int32 → Option HS) (hk_kR_X2_readAsk : ∀ (h : HS) (x0 : Int32), pk (kR_X2_readAsk h x0) (fun a => KF h a)) (kR_X2_readOne : HS → Int32 → Option HS) (hk_kR_X2_readOne : ∀ (h : HS) (x0 : Int32), pk (kR_X2_readOne h x0) (fun a => KF h a)) (h : HS) : pk (f_X2_readLevel_2_105 kR_X2_readLevel kR_X2_readAsk kR_X2_readOne h) (fun a => KF h a) := by
  unfold f_X2_readLevel_2_105
  exact pk_some (KF_refl h)
theorem kf_f_X2_readLevel_2_42 (kR_X2_readLevel : HS → Int32 → Int32 → Option HS) (hk_kR_X2_readLevel : ∀ (h : HS) (x0 : Int32) (x1 : Int32), pk (kR_X2_readLevel h x0 x1) (fun a => KF h a)) (kR_X2_readAsk : HS → Int32 → Option HS) (hk_kR_X2_readAsk : ∀ (h : HS) (x0 : Int32), pk (kR_X2_readAsk h x0) (fun a => KF h a)) (kR_X2_readOne : HS → Int32 → Option HS) (hk_kR_X2_readOne : ∀ (h : HS) (x0 : Int32), pk (kR_X2_readOne h x0) (fun a => KF h a)) : ∀ (n : Nat) (h : HS) (x3 : Int32) (x4 : Int32) (x5 : Int32), pk (f_X2_readLevel_2_42 kR_X2_readLevel kR_X2_readAsk kR_X2_readOne n h x3 x4 x5) (fun a => KF h a) := by
  intro n
  induction n with
  | zero => intro h x3 x4 x5; exact pk_none
  | succ n ih =>
    intro h x3 x4 x5
    rw [f_X2_readLevel_2_42_s]
    refine pk_if (fun _ => ?_) (fun _ => ?_)
    · exact pk_mono (kf_f_X2_readLevel_2_105 kR_X2_readLevel hk_kR_X2_readLevel kR_X2_readAsk hk_kR_X2_readAsk kR_X2_readOne hk_kR_X2_readOne h) (fun _ k => KF_trans (KF_refl h) k)
    · refine pk_if (fun _ => ?_) (fun _ => ?_)
      · refine pk_ob2 (pk_mono (w_f_X7_kind h) (fun _ k => KF_fr k (by decide))) (fun r_8 h_8 k_1 => ?_)
        replace k_1 := KF_trans (KF_refl h) k_1
        refine pk_obf (fun r_9 => ?_)
        refine pk_if (fun _ => ?_) (fun _ => ?_)
        · refine pk_ob2 (pk_mono (w_f_X7_kind h_8) (fun _ k => KF_fr k (by decide))) (fun r_11 h_11 k_2 => ?_)
          replace k_2 := KF_trans k_1 k_2
          refine pk_ob1 (pk_mono (w_f_X7_advance h_11) (fun _ k => KF_fr k (by decide))) (fun h_12 k_3 => ?_)
          replace k_3 := KF_trans k_2 k_3
          refine pk_ob1 (hk_kR_X2_readLevel h_12 (x3 + 1) x4) (fun h_13 k_4 => ?_)
          replace k_4 := KF_trans k_3 k_4
          refine pk_ob1 (pk_mono (w_f_X6_addStep_2 h_13 (20000 + r_11)) (fun _ k => KF_fr k (by decide))) (fun h_14 k_5 => ?_)
          replace k_5 := KF_trans k_4 k_5
          exact pk_mono (ih h_14 x3 x4 (x5 + 1)) (fun _ k => KF_trans k_5 k)
        · exact pk_mono (kf_f_X2_readLevel_2_105 kR_X2_readLevel hk_kR_X2_readLevel kR_X2_readAsk hk_kR_X2_readAsk kR_X2_readOne hk_kR_X2_readOne h_8) (fun _ k => KF_trans k_1 k)
      · exact pk_mono (kf_f_X2_readLevel_2_105 kR_X2_readLevel hk_kR_X2_readLevel kR_X2_readAsk hk_kR_X2_readAsk kR_X2_readOne hk_kR_X2_readOne h) (fun _ k => KF_trans (KF_refl h) k)
theorem kf_f_X2_readLevel_2_b (kR_X2_readLevel : HS → Int32 → Int32 → Option HS) (hk_kR_X2_readLevel : ∀ (h : HS) (x0 : Int32) (x1 : Int32), pk (kR_X2_readLevel h x0 x1) (fun a => KF h a)) (kR_X2_readAsk : HS → Int32 → Option HS) (hk_kR_X2_readAsk : ∀ (h : HS) (x0 : Int32), pk (kR_X2_readAsk h x0) (fun a => KF h a)) (kR_X2_readOne : HS → Int32 → Option HS) (hk_kR_X2_readOne : ∀ (h : HS) (x0 : Int32), pk (kR_X2_readOne h x0) (fun a => KF h a)) (h : HS) (p1 : Int32) (p2 : Int32) : pk (f_X2_readLevel_2_b kR_X2_readLevel kR_X2_readAsk kR_X2_readOne h p1 p2) (fun a => KF h a) := by
  unfold f_X2_readLevel_2_b
  refine pk_if (fun _ => ?_) (fun _ => ?_)
  · refine pk_ob1 (hk_kR_X2_readAsk h p2) (fun h_5 k_1 => ?_)
    replace k_1 := KF_trans (KF_refl h) k_1
    exact pk_some k_1
  · refine pk_if (fun _ => ?_) (fun _ => ?_)
    · refine pk_ob1 (hk_kR_X2_readOne h p2) (fun h_4 k_2 => ?_)
      replace k_2 := KF_trans (KF_refl h) k_2
      exact pk_some k_2
    · refine pk_ob1 (hk_kR_X2_readLevel h (p1 + 1) p2) (fun h_3 k_3 => ?_)
      replace k_3 := KF_trans (KF_refl h) k_3
      exact pk_mono (kf_f_X2_readLevel_2_42 kR_X2_readLevel hk_kR_X2_readLevel kR_X2_readAsk hk_kR_X2_readAsk kR_X2_readOne hk_kR_X2_readOne 8589934592 h_3 p1 p2 0) (fun _ k => KF_trans k_3 k)
theorem kf_f_X2_readAsk_2_97 (kR_X2_readLevel : HS → Int32 → Int32 → Option HS) (hk_kR_X2_readLevel : ∀ (h : HS) (x0 : Int32) (x1 : Int32), pk (kR_X2_readLevel h x0 x1) (fun a => KF h a)) (kR_X2_readAsk : HS → Int32 → Option HS) (hk_kR_X2_readAsk : ∀ (h : HS) (x0 : Int32), pk (kR_X2_readAsk h x0) (fun a => KF h a)) (kR_X2_readOne : HS → Int32 → Option HS) (hk_kR_X2_readOne : ∀ (h : HS) (x0 : Int32), pk (kR_X2_readOne h x0) (fun a => KF h a)) (h : HS) : pk (f_X2_readAsk_2_97 kR_X2_readLevel kR_X2_readAsk kR_X2_readOne h) (fun a => KF h a) := by
  unfold f_X2_readAsk_2_97
  exact pk_some (KF_refl h)
theorem kf_f_X2_readAsk_2_68 (kR_X2_readLevel : HS → Int32 → Int32 → Option HS) (hk_kR_X2_readLevel : ∀ (h : HS) (x0 : Int32) (x1 : Int32), pk (kR_X2_readLevel h x0 x1) (fun a => KF h a)) (kR_X2_readAsk : HS → Int32 → Option HS) (hk_kR_X2_readAsk : ∀ (h : HS) (x0 : Int32), pk (kR_X2_readAsk h x0) (fun a => KF h a)) (kR_X2_readOne : HS → Int32 → Option HS) (hk_kR_X2_readOne : ∀ (h : HS) (x0 : Int32), pk (kR_X2_readOne h x0) (fun a => KF h a)) (h : HS) (x3 : Int32) (x4 : Int32) : pk (f_X2_readAsk_2_68 kR_X2_readLevel kR_X2_readAsk kR_X2_readOne h x3 x4) (fun a => KF h a) := by
  unfold f_X2_readAsk_2_68
  refine pk_if (fun _ => ?_) (fun _ => ?_)
  · refine pk_ob1 (pk_mono (w_f_X7_advance h) (fun _ k => KF_fr k (by decide))) (fun h_13 k_1 => ?_)
    replace k_1 := KF_trans (KF_refl h) k_1
    refine pk_ob1 (hk_kR_X2_readLevel h_13 3 x3) (fun h_14 k_2 => ?_)
    replace k_2 := KF_trans k_1 k_2
    refine pk_ob1 (pk_mono (w_f_X6_addStep_2 h_14 (20000 + x4)) (fun _ k => KF_fr k (by decide))) (fun h_15 k_3 => ?_)
    replace k_3 := KF_trans k_2 k_3
    exact pk_mono (kf_f_X2_readAsk_2_97 kR_X2_readLevel hk_kR_X2_readLevel kR_X2_readAsk hk_kR_X2_readAsk kR_X2_readOne hk_kR_X2_readOne h_15) (fun _ k => KF_trans k_3 k)
  · exact pk_mono (kf_f_X2_readAsk_2_97 kR_X2_readLevel hk_kR_X2_readLevel kR_X2_readAsk hk_kR_X2_readAsk kR_X2_readOne hk_kR_X2_readOne h) (fun _ k => KF_trans (KF_refl h) k)
theorem kf_f_X2_readAsk_2_62 (kR_X2_readLevel : HS → Int32 → Int32 → Option HS) (hk_kR_X2_readLevel : ∀ (h : HS) (x0 : Int32) (x1 : Int32), pk (kR_X2_readLevel h x0 x1) (fun a => KF h a)) (kR_X2_readAsk : HS → Int32 → Option HS) (hk_kR_X2_readAsk : ∀ (h : HS) (x0 : Int32), pk (kR_X2_readAsk h x0) (fun a => KF h a)) (kR_X2_readOne : HS → Int32 → Option HS) (hk_kR_X2_readOne : ∀ (h : HS) (x0 : Int32), pk (kR_X2_readOne h x0) (fun a => KF h a)) (h : HS) (x3 : Int32) (x4 : Int32) : pk (f_X2_readAsk_2_62 kR_X2_readLevel kR_X2_readAsk kR_X2_readOne h x3 x4) (fun a => KF h a) := by
  unfold f_X2_readAsk_2_62
  refine pk_ob1 (kf_f_X2_fail h 1) (fun h_11 k_1 => ?_)
  replace k_1 := KF_trans (KF_refl h) k_1
  exact pk_mono (kf_f_X2_readAsk_2_68 kR_X2_readLevel hk_kR_X2_readLevel kR_X2_readAsk hk_kR_X2_readAsk kR_X2_readOne hk_kR_X2_readOne h_11 x3 x4) (fun _ k => KF_trans k_1 k)
theorem kf_f_X2_readAsk_2_34 (kR_X2_readLevel : HS → Int32 → Int32 → Option HS) (hk_kR_X2_readLevel : ∀ (h : HS) (x0 : Int32) (x1 : Int32), pk (kR_X2_readLevel h x0 x1) (fun a => KF h a)) (kR_X2_readAsk : HS → Int32 → Option HS) (hk_kR_X2_readAsk : ∀ (h : HS) (x0 : Int32), pk (kR_X2_readAsk h x0) (fun a => KF h a)) (kR_X2_readOne : HS → Int32 → Option HS) (hk_kR_X2_readOne : ∀ (h : HS) (x0 : Int32), pk (kR_X2_readOne h x0) (fun a => KF h a)) (h : HS) : pk (f_X2_readAsk_2_34 kR_X2_readLevel kR_X2_readAsk kR_X2_readOne h) (fun a => KF h a) := by
  unfold f_X2_readAsk_2_34
  exact pk_some (KF_refl h)
theorem kf_f_X2_readAsk_2_b (kR_X2_readLevel : HS → Int32 → Int32 → Option HS) (hk_kR_X2_readLevel : ∀ (h : HS) (x0 : Int32) (x1 : Int32), pk (kR_X2_readLevel h x0 x1) (fun a => KF h a)) (kR_X2_readAsk : HS → Int32 → Option HS) (hk_kR_X2_readAsk : ∀ (h : HS) (x0 : Int32), pk (kR_X2_readAsk h x0) (fun a => KF h a)) (kR_X2_readOne : HS → Int32 → Option HS) (hk_kR_X2_readOne : ∀ (h : HS) (x0 : Int32), pk (kR_X2_readOne h x0) (fun a => KF h a)) (h : HS) (p1 : Int32) : pk (f_X2_readAsk_2_b kR_X2_readLevel kR_X2_readAsk kR_X2_readOne h p1) (fun a => KF h a) := by
  unfold f_X2_readAsk_2_b
  refine pk_ob2 (pk_mono (w_f_X7_kind h) (fun _ k => KF_fr k (by decide))) (fun r_1 h_1 k_1 => ?_)
  replace k_1 := KF_trans (KF_refl h) k_1
  refine pk_if (fun _ => ?_) (fun _ => ?_)
  · refine pk_ob2 (kf_f_X2_opens h_1 p1) (fun r_7 h_7 k_2 => ?_)
    replace k_2 := KF_trans k_1 k_2
    refine pk_if (fun _ => ?_) (fun _ => ?_)
    · exact pk_mono (kf_f_X2_readAsk_2_34 kR_X2_readLevel hk_kR_X2_readLevel kR_X2_readAsk hk_kR_X2_readAsk kR_X2_readOne hk_kR_X2_readOne h_7) (fun _ k => KF_trans k_2 k)
    · refine pk_ob1 (hk_kR_X2_readAsk h_7 (p1 + 1)) (fun h_9 k_3 => ?_)
      replace k_3 := KF_trans k_2 k_3
      refine pk_ob1 (pk_mono (w_f_X6_addStep_2 h_9 20028) (fun _ k => KF_fr k (by decide))) (fun h_10 k_4 => ?_)
      replace k_4 := KF_trans k_3 k_4
      exact pk_mono (kf_f_X2_readAsk_2_34 kR_X2_readLevel hk_kR_X2_readLevel kR_X2_readAsk hk_kR_X2_readAsk kR_X2_readOne hk_kR_X2_readOne h_10) (fun _ k => KF_trans k_4 k)
  · refine pk_ob1 (hk_kR_X2_readLevel h_1 3 p1) (fun h_3 k_5 => ?_)
    replace k_5 := KF_trans k_1 k_5
    refine pk_ob2 (pk_mono (w_f_X7_kind h_3) (fun _ k => KF_fr k (by decide))) (fun r_4 h_4 k_6 => ?_)
    replace k_6 := KF_trans k_5 k_6
    refine pk_if (fun _ => ?_) (fun _ => ?_)
    · exact pk_mono (kf_f_X2_readAsk_2_62 kR_X2_readLevel hk_kR_X2_readLevel kR_X2_readAsk hk_kR_X2_readAsk kR_X2_readOne hk_kR_X2_readOne h_4 p1 r_4) (fun _ k => KF_trans k_6 k)
    · refine pk_if (fun _ => ?_) (fun _ => ?_)
      · exact pk_mono (kf_f_X2_readAsk_2_68 kR_X2_readLevel hk_kR_X2_readLevel kR_X2_readAsk hk_kR_X2_readAsk kR_X2_readOne hk_kR_X2_readOne h_4 p1 r_4) (fun _ k => KF_trans k_6 k)
      · exact pk_mono (kf_f_X2_readAsk_2_62 kR_X2_readLevel hk_kR_X2_readLevel kR_X2_readAsk hk_kR_X2_readAsk kR_X2_readOne hk_kR_X2_readOne h_4 p1 r_4) (fun _ k => KF_trans k_6 k)
theorem kf_f_X2_readOne_2_121 (kR_X2_readLevel : HS → Int32 → Int32 → Option HS) (hk_kR_X2_readLevel : ∀ (h : HS) (x0 : Int32) (x1 : Int32), pk (kR_X2_readLevel h x0 x1) (fun a => KF h a)) (kR_X2_readAsk : HS → Int32 → Option HS) (hk_kR_X2_readAsk : ∀ (h : HS) (x0 : Int32), pk (kR_X2_readAsk h x0) (fun a => KF h a)) (kR_X2_readOne : HS → Int32 → Option HS) (hk_kR_X2_readOne : ∀ (h : HS) (x0 : Int32), pk (kR_X2_readOne h x0) (fun a => KF h a)) (h : HS) : pk (f_X2_readOne_2_121 kR_X2_readLevel kR_X2_readAsk kR_X2_readOne h) (fun a => KF h a) := by
  unfold f_X2_readOne_2_121
  exact pk_some (KF_refl h)
theorem kf_f_X2_readOne_2_44 (kR_X2_readLevel : HS → Int32 → Int32 → Option HS) (hk_kR_X2_readLevel : ∀ (h : HS) (x0 : Int32) (x1 : Int32), pk (kR_X2_readLevel h x0 x1) (fun a => KF h a)) (kR_X2_readAsk : HS → Int32 → Option HS) (hk_kR_X2_readAsk : ∀ (h : HS) (x0 : Int32), pk (kR_X2_readAsk h x0) (fun a => KF h a)) (kR_X2_readOne : HS → Int32 → Option HS) (hk_kR_X2_readOne : ∀ (h : HS) (x0 : Int32), pk (kR_X2_readOne h x0) (fun a => KF h a)) (h : HS) (x3 : Int32) (x4 : Int32) : pk (f_X2_readOne_2_44 kR_X2_readLevel kR_X2_readAsk kR_X2_readOne h x3 x4) (fun a => KF h a) := by
  unfold f_X2_readOne_2_44
  refine pk_if (fun _ => ?_) (fun _ => ?_)
  · refine pk_ob2 (kf_f_X2_opens h x3) (fun r_14 h_14 k_1 => ?_)
    replace k_1 := KF_trans (KF_refl h) k_1
    refine pk_if (fun _ => ?_) (fun _ => ?_)
    · exact pk_mono (kf_f_X2_readOne_2_121 kR_X2_readLevel hk_kR_X2_readLevel kR_X2_readAsk hk_kR_X2_readAsk kR_X2_readOne hk_kR_X2_readOne h_14) (fun _ k => KF_trans k_1 k)
    · refine pk_ob1 (hk_kR_X2_readLevel h_14 3 (x3 + 1)) (fun h_16 k_2 => ?_)
      replace k_2 := KF_trans k_1 k_2
      refine pk_ob1 (kf_f_X2_expect h_16 14) (fun h_17 k_3 => ?_)
      replace k_3 := KF_trans k_2 k_3
      exact pk_mono (kf_f_X2_readOne_2_121 kR_X2_readLevel hk_kR_X2_readLevel kR_X2_readAsk hk_kR_X2_readAsk kR_X2_readOne hk_kR_X2_readOne h_17) (fun _ k => KF_trans k_3 k)
  · refine pk_if (fun _ => ?_) (fun _ => ?_)
    · refine pk_ob2 (kf_f_X2_opens h x3) (fun r_10 h_10 k_4 => ?_)
      replace k_4 := KF_trans (KF_refl h) k_4
      refine pk_if (fun _ => ?_) (fun _ => ?_)
      · exact pk_mono (kf_f_X2_readOne_2_121 kR_X2_readLevel hk_kR_X2_readLevel kR_X2_readAsk hk_kR_X2_readAsk kR_X2_readOne hk_kR_X2_readOne h_10) (fun _ k => KF_trans k_4 k)
      · refine pk_ob1 (hk_kR_X2_readOne h_10 (x3 + 1)) (fun h_12 k_5 => ?_)
        replace k_5 := KF_trans k_4 k_5
        refine pk_ob1 (pk_mono (w_f_X6_addStep_2 h_12 20038) (fun _ k => KF_fr k (by decide))) (fun h_13 k_6 => ?_)
        replace k_6 := KF_trans k_5 k_6
        exact pk_mono (kf_f_X2_readOne_2_121 kR_X2_readLevel hk_kR_X2_readLevel kR_X2_readAsk hk_kR_X2_readAsk kR_X2_readOne hk_kR_X2_readOne h_13) (fun _ k => KF_trans k_6 k)
    · refine pk_ob1 (kf_f_X2_fail h 1) (fun h_9 k_7 => ?_)
      replace k_7 := KF_trans (KF_refl h) k_7
      exact pk_mono (kf_f_X2_readOne_2_121 kR_X2_readLevel hk_kR_X2_readLevel kR_X2_readAsk hk_kR_X2_readAsk kR_X2_readOne hk_kR_X2_readOne h_9) (fun _ k => KF_trans k_7 k)
theorem kf_f_X2_readOne_2_b (kR_X2_readLevel : HS → Int32 → Int32 → Option HS) (hk_kR_X2_readLevel : ∀ (h : HS) (x0 : Int32) (x1 : Int32), pk (kR_X2_readLevel h x0 x1) (fun a => KF h a)) (kR_X2_readAsk : HS → Int32 → Option HS) (hk_kR_X2_readAsk : ∀ (h : HS) (x0 : Int32), pk (kR_X2_readAsk h x0) (fun a => KF h a)) (kR_X2_readOne : HS → Int32 → Option HS) (hk_kR_X2_readOne : ∀ (h : HS) (x0 : Int32), pk (kR_X2_readOne h x0) (fun a => KF h a)) (h : HS) (p1 : Int32) : pk (f_X2_readOne_2_b kR_X2_readLevel kR_X2_readAsk kR_X2_readOne h p1) (fun a => KF h a) := by
  unfold f_X2_readOne_2_b
  refine pk_ob2 (pk_mono (w_f_X7_kind h) (fun _ k => KF_fr k (by decide))) (fun r_1 h_1 k_1 => ?_)
  replace k_1 := KF_trans (KF_refl h) k_1
  refine pk_if (fun _ => ?_) (fun _ => ?_)
  · refine pk_ob1 (kf_f_X2_readValue_2 h_1) (fun h_6 k_2 => ?_)
    replace k_2 := KF_trans k_1 k_2
    exact pk_mono (kf_f_X2_readOne_2_121 kR_X2_readLevel hk_kR_X2_readLevel kR_X2_readAsk hk_kR_X2_readAsk kR_X2_readOne hk_kR_X2_readOne h_6) (fun _ k => KF_trans k_2 k)
  · refine pk_if (fun _ => ?_) (fun _ => ?_)
    · exact pk_mono (kf_f_X2_readOne_2_44 kR_X2_readLevel hk_kR_X2_readLevel kR_X2_readAsk hk_kR_X2_readAsk kR_X2_readOne hk_kR_X2_readOne h_1 p1 r_1) (fun _ k => KF_trans k_1 k)
    · refine pk_if (fun _ => ?_) (fun _ => ?_)
      · exact pk_mono (kf_f_X2_readOne_2_44 kR_X2_readLevel hk_kR_X2_readLevel kR_X2_readAsk hk_kR_X2_readAsk kR_X2_readOne hk_kR_X2_readOne h_1 p1 r_1) (fun _ k => KF_trans k_1 k)
      · refine pk_ob1 (kf_f_X2_readName_2 h_1) (fun h_5 k_3 => ?_)
        replace k_3 := KF_trans k_1 k_3
        exact pk_mono (kf_f_X2_readOne_2_121 kR_X2_readLevel hk_kR_X2_readLevel kR_X2_readAsk hk_kR_X2_readAsk kR_X2_readOne hk_kR_X2_readOne h_5) (fun _ k => KF_trans k_3 k)
theorem kf_G_read_2 : ∀ (n t : Nat) (h : HS) (p1 p2 : Int32), pk (G_read_2 n t h p1 p2) (fun a => KF h a) := by
  intro n
  induction n with
  | zero => intro t h p1 p2; exact (by simp [G_read_2]; exact pk_none)
  | succ n ih =>
    intro t h p1 p2
    match t with
    | 0 => exact kf_f_X2_readLevel_2_b (fun h p1 p2 => G_read_2 n 0 h p1 p2) (fun h p1 p2 => ih 0 h p1 p2) (fun h p1 => G_read_2 n 1 h p1 0) (fun h p1 => ih 1 h p1 0) (fun h p1 => G_read_2 n 2 h p1 0) (fun h p1 => ih 2 h p1 0) h p1 p2
    | 1 => exact kf_f_X2_readAsk_2_b (fun h p1 p2 => G_read_2 n 0 h p1 p2) (fun h p1 p2 => ih 0 h p1 p2) (fun h p1 => G_read_2 n 1 h p1 0) (fun h p1 => ih 1 h p1 0) (fun h p1 => G_read_2 n 2 h p1 0) (fun h p1 => ih 2 h p1 0) h p1
    | t + 2 => exact kf_f_X2_readOne_2_b (fun h p1 p2 => G_read_2 n 0 h p1 p2) (fun h p1 p2 => ih 0 h p1 p2) (fun h p1 => G_read_2 n 1 h p1 0) (fun h p1 => ih 1 h p1 0) (fun h p1 => G_read_2 n 2 h p1 0) (fun h p1 => ih 2 h p1 0) h p1
theorem kf_f_X2_readClause_2_25 (h : HS) : pk (f_X2_readClause_2_25 h) (fun a => KF h a) := by
  unfold f_X2_readClause_2_25
  refine pk_ob1 (kf_f_X2_fail h 1) (fun h_15 k_1 => ?_)
  replace k_1 := KF_trans (KF_refl h) k_1
  exact pk_mono (pk_mono (w_f_X2_readClause_2_158 h_15) (fun _ k => KF_fr k (by decide))) (fun _ k => KF_trans k_1 k)
theorem kf_f_X2_readClause_2_141 (h : HS) : pk (f_X2_readClause_2_141 h) (fun a => KF h a) := by
  unfold f_X2_readClause_2_141
  refine pk_ob1 (kf_f_X2_expect h 15) (fun h_16 k_1 => ?_)
  replace k_1 := KF_trans (KF_refl h) k_1
  exact pk_mono (pk_mono (w_f_X2_readClause_2_158 (sI h_16 11 1 ((eI h_16 11 1) + 1))) (fun _ k => KF_fr k (by decide))) (fun _ k => KF_trans (KF_trans k_1 (KF_fr (Fr_sI (S := [(0, 11, 1)]) (by decide) (Fr_refl _ _)) (by decide))) k)
theorem kf_f_X2_readClause_2_119 (h : HS) (y0 : Int32) : pk (f_X2_readClause_2_119 h y0) (fun a => KF h a) := by
  unfold f_X2_readClause_2_119
  refine pk_ob1 (kf_G_read_2 200 0 h y0 0) (fun h_17 k_1 => ?_)
  replace k_1 := KF_trans (KF_refl h) k_1
  refine pk_ob1 (pk_mono (w_f_X6_closeLaw_2 h_17 (eI h_17 5 2)) (fun _ k => KF_fr k (by decide))) (fun h_18 k_2 => ?_)
  replace k_2 := KF_trans k_1 k_2
  exact pk_mono (kf_f_X2_readClause_2_141 h_18) (fun _ k => KF_trans k_2 k)
theorem kf_f_X2_readClause_2 (h : HS) : pk (f_X2_readClause_2 h) (fun a => KF h a) := by
  unfold f_X2_readClause_2
  refine pk_ob2 (pk_mono (w_f_X7_kind h) (fun _ k => KF_fr k (by decide))) (fun r_1 h_1 k_1 => ?_)
  replace k_1 := KF_trans (KF_refl h) k_1
  refine pk_if (fun _ => ?_) (fun _ => ?_)
  · exact pk_mono (kf_f_X2_readClause_2_25 (sI h_1 5 2 (r_1 - 16))) (fun _ k => KF_trans (KF_trans k_1 (KF_fr (Fr_sI (S := [(0, 5, 2)]) (by decide) (Fr_refl _ _)) (by decide))) k)
  · refine pk_if (fun _ => ?_) (fun _ => ?_)
    · refine pk_ob2 (pk_mono (w_f_X6_hasLaw_2 (sI h_1 5 2 (r_1 - 16)) (r_1 - 16)) (fun _ k => KF_fr k (by decide))) (fun r_4 h_4 k_2 => ?_)
      replace k_2 := KF_trans (KF_trans k_1 (KF_fr (Fr_sI (S := [(0, 5, 2)]) (by decide) (Fr_refl _ _)) (by decide))) k_2
      refine pk_if (fun _ => ?_) (fun _ => ?_)
      · refine pk_if (fun _ => ?_) (fun _ => ?_)
        · refine pk_ob1 (pk_mono (w_f_X6_setClause_2 h_4 (eI h_4 11 1) 0 r_1) (fun _ k => KF_fr k (by decide))) (fun h_7 k_3 => ?_)
          replace k_3 := KF_trans k_2 k_3
          refine pk_ob1 (pk_mono (w_f_X7_advance h_7) (fun _ k => KF_fr k (by decide))) (fun h_8 k_4 => ?_)
          replace k_4 := KF_trans k_3 k_4
          refine pk_if (fun _ => ?_) (fun _ => ?_)
          · refine pk_ob1 (kf_f_X2_readDeed_2 h_8 r_1) (fun h_10 k_5 => ?_)
            replace k_5 := KF_trans k_4 k_5
            exact pk_mono (kf_f_X2_readClause_2_141 h_10) (fun _ k => KF_trans k_5 k)
          · refine pk_ob1 (pk_mono (w_f_X6_beginLaw_2 h_8 (eI h_8 5 2)) (fun _ k => KF_fr k (by decide))) (fun h_11 k_6 => ?_)
            replace k_6 := KF_trans k_4 k_6
            refine pk_if (fun _ => ?_) (fun _ => ?_)
            · exact pk_mono (kf_f_X2_readClause_2_119 h_11 0) (fun _ k => KF_trans k_6 k)
            · exact pk_mono (kf_f_X2_readClause_2_119 h_11 3) (fun _ k => KF_trans k_6 k)
        · refine pk_ob1 (kf_f_X2_fail h_4 6) (fun h_13 k_7 => ?_)
          replace k_7 := KF_trans k_2 k_7
          exact pk_mono (pk_mono (w_f_X2_readClause_2_158 h_13) (fun _ k => KF_fr k (by decide))) (fun _ k => KF_trans k_7 k)
      · refine pk_ob1 (kf_f_X2_fail h_4 4) (fun h_14 k_8 => ?_)
        replace k_8 := KF_trans k_2 k_8
        exact pk_mono (pk_mono (w_f_X2_readClause_2_158 h_14) (fun _ k => KF_fr k (by decide))) (fun _ k => KF_trans k_8 k)
    · exact pk_mono (kf_f_X2_readClause_2_25 (sI h_1 5 2 (r_1 - 16))) (fun _ k => KF_trans (KF_trans k_1 (KF_fr (Fr_sI (S := [(0, 5, 2)]) (by decide) (Fr_refl _ _)) (by decide))) k)
theorem kf_f_X2_readValue_3 (h : HS) : pk (f_X2_readValue_3 h) (fun a => KF h a) := by
  unfold f_X2_readValue_3
  refine pk_ob2 (pk_mono (w_f_X7_value h) (fun _ k => KF_fr k (by decide))) (fun r_1 h_1 k_1 => ?_)
  replace k_1 := KF_trans (KF_refl h) k_1
  refine pk_if (fun _ => ?_) (fun _ => ?_)
  · refine pk_ob2 (pk_mono (w_f_X7_value h_1) (fun _ k => KF_fr k (by decide))) (fun r_3 h_3 k_2 => ?_)
    replace k_2 := KF_trans k_1 k_2
    refine pk_ob1 (pk_mono (w_f_X6_addStep_3 h_3 r_3) (fun _ k => KF_fr k (by decide))) (fun h_4 k_3 => ?_)
    replace k_3 := KF_trans k_2 k_3
    refine pk_ob1 (pk_mono (w_f_X7_advance h_4) (fun _ k => KF_fr k (by decide))) (fun h_5 k_4 => ?_)
    replace k_4 := KF_trans k_3 k_4
    exact pk_some k_4
  · refine pk_ob1 (kf_f_X2_fail h_1 2) (fun h_6 k_5 => ?_)
    replace k_5 := KF_trans k_1 k_5
    exact pk_some k_5
theorem kf_f_X2_readName_3 (h : HS) : pk (f_X2_readName_3 h) (fun a => KF h a) := by
  unfold f_X2_readName_3
  refine pk_ob2 (pk_mono (w_f_X7_kind h) (fun _ k => KF_fr k (by decide))) (fun r_1 h_1 k_1 => ?_)
  replace k_1 := KF_trans (KF_refl h) k_1
  refine pk_if (fun _ => ?_) (fun _ => ?_)
  · exact pk_mono (pk_mono (w_f_X2_readName_3_31 h_1) (fun _ k => KF_fr k (by decide))) (fun _ k => KF_trans k_1 k)
  · refine pk_if (fun _ => ?_) (fun _ => ?_)
    · exact pk_mono (pk_mono (w_f_X2_readName_3_31 h_1) (fun _ k => KF_fr k (by decide))) (fun _ k => KF_trans k_1 k)
    · refine pk_if (fun _ => ?_) (fun _ => ?_)
      · exact pk_mono (pk_mono (w_f_X2_readName_3_31 h_1) (fun _ k => KF_fr k (by decide))) (fun _ k => KF_trans k_1 k)
      · refine pk_ob1 (kf_f_X2_fail h_1 5) (fun h_5 k_2 => ?_)
        replace k_2 := KF_trans k_1 k_2
        exact pk_some k_2
theorem kf_f_X2_readNumber_3_43 (h : HS) : pk (f_X2_readNumber_3_43 h) (fun a => KF h a) := by
  unfold f_X2_readNumber_3_43
  refine pk_ob1 (kf_f_X2_fail h 2) (fun h_12 k_1 => ?_)
  replace k_1 := KF_trans (KF_refl h) k_1
  exact pk_mono (pk_mono (w_f_X2_readNumber_3_69 h_12) (fun _ k => KF_fr k (by decide))) (fun _ k => KF_trans k_1 k)
theorem kf_f_X2_readNumber_3 (h : HS) (p1 : Int32) (p2 : Int32) (p3 : Int32) : pk (f_X2_readNumber_3 h p1 p2 p3) (fun a => KF h a) := by
  unfold f_X2_readNumber_3
  refine pk_if (fun _ => ?_) (fun _ => ?_)
  · refine pk_ob2 (pk_mono (w_f_X7_kind h) (fun _ k => KF_fr k (by decide))) (fun r_2 h_2 k_1 => ?_)
    replace k_1 := KF_trans (KF_refl h) k_1
    refine pk_if (fun _ => ?_) (fun _ => ?_)
    · refine pk_ob2 (pk_mono (w_f_X7_value h_2) (fun _ k => KF_fr k (by decide))) (fun r_4 h_4 k_2 => ?_)
      replace k_2 := KF_trans k_1 k_2
      refine pk_if (fun _ => ?_) (fun _ => ?_)
      · exact pk_mono (kf_f_X2_readNumber_3_43 h_4) (fun _ k => KF_trans k_2 k)
      · refine pk_ob2 (pk_mono (w_f_X7_value h_4) (fun _ k => KF_fr k (by decide))) (fun r_6 h_6 k_3 => ?_)
        replace k_3 := KF_trans k_2 k_3
        refine pk_if (fun _ => ?_) (fun _ => ?_)
        · refine pk_ob2 (pk_mono (w_f_X7_value h_6) (fun _ k => KF_fr k (by decide))) (fun r_8 h_8 k_4 => ?_)
          replace k_4 := KF_trans k_3 k_4
          refine pk_ob1 (pk_mono (w_f_X6_setClause_3 h_8 (eI h_6 12 1) p1 r_8) (fun _ k => KF_fr k (by decide))) (fun h_9 k_5 => ?_)
          replace k_5 := KF_trans k_4 k_5
          refine pk_ob1 (pk_mono (w_f_X7_advance h_9) (fun _ k => KF_fr k (by decide))) (fun h_10 k_6 => ?_)
          replace k_6 := KF_trans k_5 k_6
          exact pk_mono (pk_mono (w_f_X2_readNumber_3_69 h_10) (fun _ k => KF_fr k (by decide))) (fun _ k => KF_trans k_6 k)
        · exact pk_mono (kf_f_X2_readNumber_3_43 h_6) (fun _ k => KF_trans k_3 k)
    · refine pk_ob1 (kf_f_X2_fail h_2 1) (fun h_11 k_7 => ?_)
      replace k_7 := KF_trans k_1 k_7
      exact pk_mono (pk_mono (w_f_X2_readNumber_3_69 h_11) (fun _ k => KF_fr k (by decide))) (fun _ k => KF_trans k_7 k)
  · exact pk_some (KF_refl h)
theorem kf_f_X2_readDeed_3 (h : HS) (p1 : Int32) : pk (f_X2_readDeed_3 h p1) (fun a => KF h a) := by
  unfold f_X2_readDeed_3
  refine pk_if (fun _ => ?_) (fun _ => ?_)
  · refine pk_ob1 (kf_f_X2_readNumber_3 h 1 1 99) (fun h_11 k_1 => ?_)
    replace k_1 := KF_trans (KF_refl h) k_1
    exact pk_some k_1
  · refine pk_ob1 (kf_f_X2_readNumber_3 h 1 0 9) (fun h_2 k_2 => ?_)
    replace k_2 := KF_trans (KF_refl h) k_2
    refine pk_if (fun _ => ?_) (fun _ => ?_)
    · refine pk_ob1 (kf_f_X2_expect h_2 24) (fun h_7 k_3 => ?_)
      replace k_3 := KF_trans k_2 k_3
      refine pk_ob1 (kf_f_X2_readNumber_3 h_7 2 0 5) (fun h_8 k_4 => ?_)
      replace k_4 := KF_trans k_3 k_4
      refine pk_ob1 (kf_f_X2_expect h_8 33) (fun h_9 k_5 => ?_)
      replace k_5 := KF_trans k_4 k_5
      refine pk_ob1 (kf_f_X2_readNumber_3 h_9 3 0 2) (fun h_10 k_6 => ?_)
      replace k_6 := KF_trans k_5 k_6
      exact pk_mono (pk_mono (w_f_X2_readDeed_3_90 h_10) (fun _ k => KF_fr k (by decide))) (fun _ k => KF_trans k_6 k)
    · refine pk_if (fun _ => ?_) (fun _ => ?_)
      · refine pk_ob1 (kf_f_X2_expect h_2 25) (fun h_5 k_7 => ?_)
        replace k_7 := KF_trans k_2 k_7
        refine pk_ob1 (kf_f_X2_readNumber_3 h_5 2 0 3) (fun h_6 k_8 => ?_)
        replace k_8 := KF_trans k_7 k_8
        exact pk_mono (pk_mono (w_f_X2_readDeed_3_90 h_6) (fun _ k => KF_fr k (by decide))) (fun _ k => KF_trans k_8 k)
      · exact pk_mono (pk_mono (w_f_X2_readDeed_3_90 h_2) (fun _ k => KF_fr k (by decide))) (fun _ k => KF_trans k_2 k)
theorem kf_f_X2_readLevel_3_105 (kR_X2_readLevel : HS → Int32 → Int32 → Option HS) (hk_kR_X2_readLevel : ∀ (h : HS) (x0 : Int32) (x1 : Int32), pk (kR_X2_readLevel h x0 x1) (fun a => KF h a)) (kR_X2_readAsk : HS → Int32 → Option HS) (hk_kR_X2_readAsk : ∀ (h : HS) (x0 : Int32), pk (kR_X2_readAsk h x0) (fun a => KF h a)) (kR_X2_readOne : HS → Int32 → Option HS) (hk_kR_X2_readOne : ∀ (h : HS) (x0 : Int32), pk (kR_X2_readOne h x0) (fun a => KF h a)) (h : HS) : pk (f_X2_readLevel_3_105 kR_X2_readLevel kR_X2_readAsk kR_X2_readOne h) (fun a => KF h a) := by
  unfold f_X2_readLevel_3_105
  exact pk_some (KF_refl h)
theorem kf_f_X2_readLevel_3_42 (kR_X2_readLevel : HS → Int32 → Int32 → Option HS) (hk_kR_X2_readLevel : ∀ (h : HS) (x0 : Int32) (x1 : Int32), pk (kR_X2_readLevel h x0 x1) (fun a => KF h a)) (kR_X2_readAsk : HS → Int32 → Option HS) (hk_kR_X2_readAsk : ∀ (h : HS) (x0 : Int32), pk (kR_X2_readAsk h x0) (fun a => KF h a)) (kR_X2_readOne : HS → Int32 → Option HS) (hk_kR_X2_readOne : ∀ (h : HS) (x0 : Int32), pk (kR_X2_readOne h x0) (fun a => KF h a)) : ∀ (n : Nat) (h : HS) (x3 : Int32) (x4 : Int32) (x5 : Int32), pk (f_X2_readLevel_3_42 kR_X2_readLevel kR_X2_readAsk kR_X2_readOne n h x3 x4 x5) (fun a => KF h a) := by
  intro n
  induction n with
  | zero => intro h x3 x4 x5; exact pk_none
  | succ n ih =>
    intro h x3 x4 x5
    rw [f_X2_readLevel_3_42_s]
    refine pk_if (fun _ => ?_) (fun _ => ?_)
    · exact pk_mono (kf_f_X2_readLevel_3_105 kR_X2_readLevel hk_kR_X2_readLevel kR_X2_readAsk hk_kR_X2_readAsk kR_X2_readOne hk_kR_X2_readOne h) (fun _ k => KF_trans (KF_refl h) k)
    · refine pk_if (fun _ => ?_) (fun _ => ?_)
      · refine pk_ob2 (pk_mono (w_f_X7_kind h) (fun _ k => KF_fr k (by decide))) (fun r_8 h_8 k_1 => ?_)
        replace k_1 := KF_trans (KF_refl h) k_1
        refine pk_obf (fun r_9 => ?_)
        refine pk_if (fun _ => ?_) (fun _ => ?_)
        · refine pk_ob2 (pk_mono (w_f_X7_kind h_8) (fun _ k => KF_fr k (by decide))) (fun r_11 h_11 k_2 => ?_)
          replace k_2 := KF_trans k_1 k_2
          refine pk_ob1 (pk_mono (w_f_X7_advance h_11) (fun _ k => KF_fr k (by decide))) (fun h_12 k_3 => ?_)
          replace k_3 := KF_trans k_2 k_3
          refine pk_ob1 (hk_kR_X2_readLevel h_12 (x3 + 1) x4) (fun h_13 k_4 => ?_)
          replace k_4 := KF_trans k_3 k_4
          refine pk_ob1 (pk_mono (w_f_X6_addStep_3 h_13 (20000 + r_11)) (fun _ k => KF_fr k (by decide))) (fun h_14 k_5 => ?_)
          replace k_5 := KF_trans k_4 k_5
          exact pk_mono (ih h_14 x3 x4 (x5 + 1)) (fun _ k => KF_trans k_5 k)
        · exact pk_mono (kf_f_X2_readLevel_3_105 kR_X2_readLevel hk_kR_X2_readLevel kR_X2_readAsk hk_kR_X2_readAsk kR_X2_readOne hk_kR_X2_readOne h_8) (fun _ k => KF_trans k_1 k)
      · exact pk_mono (kf_f_X2_readLevel_3_105 kR_X2_readLevel hk_kR_X2_readLevel kR_X2_readAsk hk_kR_X2_readAsk kR_X2_readOne hk_kR_X2_readOne h) (fun _ k => KF_trans (KF_refl h) k)
theorem kf_f_X2_readLevel_3_b (kR_X2_readLevel : HS → Int32 → Int32 → Option HS) (hk_kR_X2_readLevel : ∀ (h : HS) (x0 : Int32) (x1 : Int32), pk (kR_X2_readLevel h x0 x1) (fun a => KF h a)) (kR_X2_readAsk : HS → Int32 → Option HS) (hk_kR_X2_readAsk : ∀ (h : HS) (x0 : Int32), pk (kR_X2_readAsk h x0) (fun a => KF h a)) (kR_X2_readOne : HS → Int32 → Option HS) (hk_kR_X2_readOne : ∀ (h : HS) (x0 : Int32), pk (kR_X2_readOne h x0) (fun a => KF h a)) (h : HS) (p1 : Int32) (p2 : Int32) : pk (f_X2_readLevel_3_b kR_X2_readLevel kR_X2_readAsk kR_X2_readOne h p1 p2) (fun a => KF h a) := by
  unfold f_X2_readLevel_3_b
  refine pk_if (fun _ => ?_) (fun _ => ?_)
  · refine pk_ob1 (hk_kR_X2_readAsk h p2) (fun h_5 k_1 => ?_)
    replace k_1 := KF_trans (KF_refl h) k_1
    exact pk_some k_1
  · refine pk_if (fun _ => ?_) (fun _ => ?_)
    · refine pk_ob1 (hk_kR_X2_readOne h p2) (fun h_4 k_2 => ?_)
      replace k_2 := KF_trans (KF_refl h) k_2
      exact pk_some k_2
    · refine pk_ob1 (hk_kR_X2_readLevel h (p1 + 1) p2) (fun h_3 k_3 => ?_)
      replace k_3 := KF_trans (KF_refl h) k_3
      exact pk_mono (kf_f_X2_readLevel_3_42 kR_X2_readLevel hk_kR_X2_readLevel kR_X2_readAsk hk_kR_X2_readAsk kR_X2_readOne hk_kR_X2_readOne 8589934592 h_3 p1 p2 0) (fun _ k => KF_trans k_3 k)
theorem kf_f_X2_readAsk_3_97 (kR_X2_readLevel : HS → Int32 → Int32 → Option HS) (hk_kR_X2_readLevel : ∀ (h : HS) (x0 : Int32) (x1 : Int32), pk (kR_X2_readLevel h x0 x1) (fun a => KF h a)) (kR_X2_readAsk : HS → Int32 → Option HS) (hk_kR_X2_readAsk : ∀ (h : HS) (x0 : Int32), pk (kR_X2_readAsk h x0) (fun a => KF h a)) (kR_X2_readOne : HS → Int32 → Option HS) (hk_kR_X2_readOne : ∀ (h : HS) (x0 : Int32), pk (kR_X2_readOne h x0) (fun a => KF h a)) (h : HS) : pk (f_X2_readAsk_3_97 kR_X2_readLevel kR_X2_readAsk kR_X2_readOne h) (fun a => KF h a) := by
  unfold f_X2_readAsk_3_97
  exact pk_some (KF_refl h)
theorem kf_f_X2_readAsk_3_68 (kR_X2_readLevel : HS → Int32 → Int32 → Option HS) (hk_kR_X2_readLevel : ∀ (h : HS) (x0 : Int32) (x1 : Int32), pk (kR_X2_readLevel h x0 x1) (fun a => KF h a)) (kR_X2_readAsk : HS → Int32 → Option HS) (hk_kR_X2_readAsk : ∀ (h : HS) (x0 : Int32), pk (kR_X2_readAsk h x0) (fun a => KF h a)) (kR_X2_readOne : HS → Int32 → Option HS) (hk_kR_X2_readOne : ∀ (h : HS) (x0 : Int32), pk (kR_X2_readOne h x0) (fun a => KF h a)) (h : HS) (x3 : Int32) (x4 : Int32) : pk (f_X2_readAsk_3_68 kR_X2_readLevel kR_X2_readAsk kR_X2_readOne h x3 x4) (fun a => KF h a) := by
  unfold f_X2_readAsk_3_68
  refine pk_if (fun _ => ?_) (fun _ => ?_)
  · refine pk_ob1 (pk_mono (w_f_X7_advance h) (fun _ k => KF_fr k (by decide))) (fun h_13 k_1 => ?_)
    replace k_1 := KF_trans (KF_refl h) k_1
    refine pk_ob1 (hk_kR_X2_readLevel h_13 3 x3) (fun h_14 k_2 => ?_)
    replace k_2 := KF_trans k_1 k_2
    refine pk_ob1 (pk_mono (w_f_X6_addStep_3 h_14 (20000 + x4)) (fun _ k => KF_fr k (by decide))) (fun h_15 k_3 => ?_)
    replace k_3 := KF_trans k_2 k_3
    exact pk_mono (kf_f_X2_readAsk_3_97 kR_X2_readLevel hk_kR_X2_readLevel kR_X2_readAsk hk_kR_X2_readAsk kR_X2_readOne hk_kR_X2_readOne h_15) (fun _ k => KF_trans k_3 k)
  · exact pk_mono (kf_f_X2_readAsk_3_97 kR_X2_readLevel hk_kR_X2_readLevel kR_X2_readAsk hk_kR_X2_readAsk kR_X2_readOne hk_kR_X2_readOne h) (fun _ k => KF_trans (KF_refl h) k)
theorem kf_f_X2_readAsk_3_62 (kR_X2_readLevel : HS → Int32 → Int32 → Option HS) (hk_kR_X2_readLevel : ∀ (h : HS) (x0 : Int32) (x1 : Int32), pk (kR_X2_readLevel h x0 x1) (fun a => KF h a)) (kR_X2_readAsk : HS → Int32 → Option HS) (hk_kR_X2_readAsk : ∀ (h : HS) (x0 : Int32), pk (kR_X2_readAsk h x0) (fun a => KF h a)) (kR_X2_readOne : HS → Int32 → Option HS) (hk_kR_X2_readOne : ∀ (h : HS) (x0 : Int32), pk (kR_X2_readOne h x0) (fun a => KF h a)) (h : HS) (x3 : Int32) (x4 : Int32) : pk (f_X2_readAsk_3_62 kR_X2_readLevel kR_X2_readAsk kR_X2_readOne h x3 x4) (fun a => KF h a) := by
  unfold f_X2_readAsk_3_62
  refine pk_ob1 (kf_f_X2_fail h 1) (fun h_11 k_1 => ?_)
  replace k_1 := KF_trans (KF_refl h) k_1
  exact pk_mono (kf_f_X2_readAsk_3_68 kR_X2_readLevel hk_kR_X2_readLevel kR_X2_readAsk hk_kR_X2_readAsk kR_X2_readOne hk_kR_X2_readOne h_11 x3 x4) (fun _ k => KF_trans k_1 k)
theorem kf_f_X2_readAsk_3_34 (kR_X2_readLevel : HS → Int32 → Int32 → Option HS) (hk_kR_X2_readLevel : ∀ (h : HS) (x0 : Int32) (x1 : Int32), pk (kR_X2_readLevel h x0 x1) (fun a => KF h a)) (kR_X2_readAsk : HS → Int32 → Option HS) (hk_kR_X2_readAsk : ∀ (h : HS) (x0 : Int32), pk (kR_X2_readAsk h x0) (fun a => KF h a)) (kR_X2_readOne : HS → Int32 → Option HS) (hk_kR_X2_readOne : ∀ (h : HS) (x0 : Int32), pk (kR_X2_readOne h x0) (fun a => KF h a)) (h : HS) : pk (f_X2_readAsk_3_34 kR_X2_readLevel kR_X2_readAsk kR_X2_readOne h) (fun a => KF h a) := by
  unfold f_X2_readAsk_3_34
  exact pk_some (KF_refl h)
theorem kf_f_X2_readAsk_3_b (kR_X2_readLevel : HS → Int32 → Int32 → Option HS) (hk_kR_X2_readLevel : ∀ (h : HS) (x0 : Int32) (x1 : Int32), pk (kR_X2_readLevel h x0 x1) (fun a => KF h a)) (kR_X2_readAsk : HS → Int32 → Option HS) (hk_kR_X2_readAsk : ∀ (h : HS) (x0 : Int32), pk (kR_X2_readAsk h x0) (fun a => KF h a)) (kR_X2_readOne : HS → Int32 → Option HS) (hk_kR_X2_readOne : ∀ (h : HS) (x0 : Int32), pk (kR_X2_readOne h x0) (fun a => KF h a)) (h : HS) (p1 : Int32) : pk (f_X2_readAsk_3_b kR_X2_readLevel kR_X2_readAsk kR_X2_readOne h p1) (fun a => KF h a) := by
  unfold f_X2_readAsk_3_b
  refine pk_ob2 (pk_mono (w_f_X7_kind h) (fun _ k => KF_fr k (by decide))) (fun r_1 h_1 k_1 => ?_)
  replace k_1 := KF_trans (KF_refl h) k_1
  refine pk_if (fun _ => ?_) (fun _ => ?_)
  · refine pk_ob2 (kf_f_X2_opens h_1 p1) (fun r_7 h_7 k_2 => ?_)
    replace k_2 := KF_trans k_1 k_2
    refine pk_if (fun _ => ?_) (fun _ => ?_)
    · exact pk_mono (kf_f_X2_readAsk_3_34 kR_X2_readLevel hk_kR_X2_readLevel kR_X2_readAsk hk_kR_X2_readAsk kR_X2_readOne hk_kR_X2_readOne h_7) (fun _ k => KF_trans k_2 k)
    · refine pk_ob1 (hk_kR_X2_readAsk h_7 (p1 + 1)) (fun h_9 k_3 => ?_)
      replace k_3 := KF_trans k_2 k_3
      refine pk_ob1 (pk_mono (w_f_X6_addStep_3 h_9 20028) (fun _ k => KF_fr k (by decide))) (fun h_10 k_4 => ?_)
      replace k_4 := KF_trans k_3 k_4
      exact pk_mono (kf_f_X2_readAsk_3_34 kR_X2_readLevel hk_kR_X2_readLevel kR_X2_readAsk hk_kR_X2_readAsk kR_X2_readOne hk_kR_X2_readOne h_10) (fun _ k => KF_trans k_4 k)
  · refine pk_ob1 (hk_kR_X2_readLevel h_1 3 p1) (fun h_3 k_5 => ?_)
    replace k_5 := KF_trans k_1 k_5
    refine pk_ob2 (pk_mono (w_f_X7_kind h_3) (fun _ k => KF_fr k (by decide))) (fun r_4 h_4 k_6 => ?_)
    replace k_6 := KF_trans k_5 k_6
    refine pk_if (fun _ => ?_) (fun _ => ?_)
    · exact pk_mono (kf_f_X2_readAsk_3_62 kR_X2_readLevel hk_kR_X2_readLevel kR_X2_readAsk hk_kR_X2_readAsk kR_X2_readOne hk_kR_X2_readOne h_4 p1 r_4) (fun _ k => KF_trans k_6 k)
    · refine pk_if (fun _ => ?_) (fun _ => ?_)
      · exact pk_mono (kf_f_X2_readAsk_3_68 kR_X2_readLevel hk_kR_X2_readLevel kR_X2_readAsk hk_kR_X2_readAsk kR_X2_readOne hk_kR_X2_readOne h_4 p1 r_4) (fun _ k => KF_trans k_6 k)
      · exact pk_mono (kf_f_X2_readAsk_3_62 kR_X2_readLevel hk_kR_X2_readLevel kR_X2_readAsk hk_kR_X2_readAsk kR_X2_readOne hk_kR_X2_readOne h_4 p1 r_4) (fun _ k => KF_trans k_6 k)
theorem kf_f_X2_readOne_3_121 (kR_X2_readLevel : HS → Int32 → Int32 → Option HS) (hk_kR_X2_readLevel : ∀ (h : HS) (x0 : Int32) (x1 : Int32), pk (kR_X2_readLevel h x0 x1) (fun a => KF h a)) (kR_X2_readAsk : HS → Int32 → Option HS) (hk_kR_X2_readAsk : ∀ (h : HS) (x0 : Int32), pk (kR_X2_readAsk h x0) (fun a => KF h a)) (kR_X2_readOne : HS → Int32 → Option HS) (hk_kR_X2_readOne : ∀ (h : HS) (x0 : Int32), pk (kR_X2_readOne h x0) (fun a => KF h a)) (h : HS) : pk (f_X2_readOne_3_121 kR_X2_readLevel kR_X2_readAsk kR_X2_readOne h) (fun a => KF h a) := by
  unfold f_X2_readOne_3_121
  exact pk_some (KF_refl h)
theorem kf_f_X2_readOne_3_44 (kR_X2_readLevel : HS → Int32 → Int32 → Option HS) (hk_kR_X2_readLevel : ∀ (h : HS) (x0 : Int32) (x1 : Int32), pk (kR_X2_readLevel h x0 x1) (fun a => KF h a)) (kR_X2_readAsk : HS → Int32 → Option HS) (hk_kR_X2_readAsk : ∀ (h : HS) (x0 : Int32), pk (kR_X2_readAsk h x0) (fun a => KF h a)) (kR_X2_readOne : HS → Int32 → Option HS) (hk_kR_X2_readOne : ∀ (h : HS) (x0 : Int32), pk (kR_X2_readOne h x0) (fun a => KF h a)) (h : HS) (x3 : Int32) (x4 : Int32) : pk (f_X2_readOne_3_44 kR_X2_readLevel kR_X2_readAsk kR_X2_readOne h x3 x4) (fun a => KF h a) := by
  unfold f_X2_readOne_3_44
  refine pk_if (fun _ => ?_) (fun _ => ?_)
  · refine pk_ob2 (kf_f_X2_opens h x3) (fun r_14 h_14 k_1 => ?_)
    replace k_1 := KF_trans (KF_refl h) k_1
    refine pk_if (fun _ => ?_) (fun _ => ?_)
    · exact pk_mono (kf_f_X2_readOne_3_121 kR_X2_readLevel hk_kR_X2_readLevel kR_X2_readAsk hk_kR_X2_readAsk kR_X2_readOne hk_kR_X2_readOne h_14) (fun _ k => KF_trans k_1 k)
    · refine pk_ob1 (hk_kR_X2_readLevel h_14 3 (x3 + 1)) (fun h_16 k_2 => ?_)
      replace k_2 := KF_trans k_1 k_2
      refine pk_ob1 (kf_f_X2_expect h_16 14) (fun h_17 k_3 => ?_)
      replace k_3 := KF_trans k_2 k_3
      exact pk_mono (kf_f_X2_readOne_3_121 kR_X2_readLevel hk_kR_X2_readLevel kR_X2_readAsk hk_kR_X2_readAsk kR_X2_readOne hk_kR_X2_readOne h_17) (fun _ k => KF_trans k_3 k)
  · refine pk_if (fun _ => ?_) (fun _ => ?_)
    · refine pk_ob2 (kf_f_X2_opens h x3) (fun r_10 h_10 k_4 => ?_)
      replace k_4 := KF_trans (KF_refl h) k_4
      refine pk_if (fun _ => ?_) (fun _ => ?_)
      · exact pk_mono (kf_f_X2_readOne_3_121 kR_X2_readLevel hk_kR_X2_readLevel kR_X2_readAsk hk_kR_X2_readAsk kR_X2_readOne hk_kR_X2_readOne h_10) (fun _ k => KF_trans k_4 k)
      · refine pk_ob1 (hk_kR_X2_readOne h_10 (x3 + 1)) (fun h_12 k_5 => ?_)
        replace k_5 := KF_trans k_4 k_5
        refine pk_ob1 (pk_mono (w_f_X6_addStep_3 h_12 20038) (fun _ k => KF_fr k (by decide))) (fun h_13 k_6 => ?_)
        replace k_6 := KF_trans k_5 k_6
        exact pk_mono (kf_f_X2_readOne_3_121 kR_X2_readLevel hk_kR_X2_readLevel kR_X2_readAsk hk_kR_X2_readAsk kR_X2_readOne hk_kR_X2_readOne h_13) (fun _ k => KF_trans k_6 k)
    · refine pk_ob1 (kf_f_X2_fail h 1) (fun h_9 k_7 => ?_)
      replace k_7 := KF_trans (KF_refl h) k_7
      exact pk_mono (kf_f_X2_readOne_3_121 kR_X2_readLevel hk_kR_X2_readLevel kR_X2_readAsk hk_kR_X2_readAsk kR_X2_readOne hk_kR_X2_readOne h_9) (fun _ k => KF_trans k_7 k)
theorem kf_f_X2_readOne_3_b (kR_X2_readLevel : HS → Int32 → Int32 → Option HS) (hk_kR_X2_readLevel : ∀ (h : HS) (x0 : Int32) (x1 : Int32), pk (kR_X2_readLevel h x0 x1) (fun a => KF h a)) (kR_X2_readAsk : HS → Int32 → Option HS) (hk_kR_X2_readAsk : ∀ (h : HS) (x0 : Int32), pk (kR_X2_readAsk h x0) (fun a => KF h a)) (kR_X2_readOne : HS → Int32 → Option HS) (hk_kR_X2_readOne : ∀ (h : HS) (x0 : Int32), pk (kR_X2_readOne h x0) (fun a => KF h a)) (h : HS) (p1 : Int32) : pk (f_X2_readOne_3_b kR_X2_readLevel kR_X2_readAsk kR_X2_readOne h p1) (fun a => KF h a) := by
  unfold f_X2_readOne_3_b
  refine pk_ob2 (pk_mono (w_f_X7_kind h) (fun _ k => KF_fr k (by decide))) (fun r_1 h_1 k_1 => ?_)
  replace k_1 := KF_trans (KF_refl h) k_1
  refine pk_if (fun _ => ?_) (fun _ => ?_)
  · refine pk_ob1 (kf_f_X2_readValue_3 h_1) (fun h_6 k_2 => ?_)
    replace k_2 := KF_trans k_1 k_2
    exact pk_mono (kf_f_X2_readOne_3_121 kR_X2_readLevel hk_kR_X2_readLevel kR_X2_readAsk hk_kR_X2_readAsk kR_X2_readOne hk_kR_X2_readOne h_6) (fun _ k => KF_trans k_2 k)
  · refine pk_if (fun _ => ?_) (fun _ => ?_)
    · exact pk_mono (kf_f_X2_readOne_3_44 kR_X2_readLevel hk_kR_X2_readLevel kR_X2_readAsk hk_kR_X2_readAsk kR_X2_readOne hk_kR_X2_readOne h_1 p1 r_1) (fun _ k => KF_trans k_1 k)
    · refine pk_if (fun _ => ?_) (fun _ => ?_)
      · exact pk_mono (kf_f_X2_readOne_3_44 kR_X2_readLevel hk_kR_X2_readLevel kR_X2_readAsk hk_kR_X2_readAsk kR_X2_readOne hk_kR_X2_readOne h_1 p1 r_1) (fun _ k => KF_trans k_1 k)
      · refine pk_ob1 (kf_f_X2_readName_3 h_1) (fun h_5 k_3 => ?_)
        replace k_3 := KF_trans k_1 k_3
        exact pk_mono (kf_f_X2_readOne_3_121 kR_X2_readLevel hk_kR_X2_readLevel kR_X2_readAsk hk_kR_X2_readAsk kR_X2_readOne hk_kR_X2_readOne h_5) (fun _ k => KF_trans k_3 k)
theorem kf_G_read_3 : ∀ (n t : Nat) (h : HS) (p1 p2 : Int32), pk (G_read_3 n t h p1 p2) (fun a => KF h a) := by
  intro n
  induction n with
  | zero => intro t h p1 p2; exact (by simp [G_read_3]; exact pk_none)
  | succ n ih =>
    intro t h p1 p2
    match t with
    | 0 => exact kf_f_X2_readLevel_3_b (fun h p1 p2 => G_read_3 n 0 h p1 p2) (fun h p1 p2 => ih 0 h p1 p2) (fun h p1 => G_read_3 n 1 h p1 0) (fun h p1 => ih 1 h p1 0) (fun h p1 => G_read_3 n 2 h p1 0) (fun h p1 => ih 2 h p1 0) h p1 p2
    | 1 => exact kf_f_X2_readAsk_3_b (fun h p1 p2 => G_read_3 n 0 h p1 p2) (fun h p1 p2 => ih 0 h p1 p2) (fun h p1 => G_read_3 n 1 h p1 0) (fun h p1 => ih 1 h p1 0) (fun h p1 => G_read_3 n 2 h p1 0) (fun h p1 => ih 2 h p1 0) h p1
    | t + 2 => exact kf_f_X2_readOne_3_b (fun h p1 p2 => G_read_3 n 0 h p1 p2) (fun h p1 p2 => ih 0 h p1 p2) (fun h p1 => G_read_3 n 1 h p1 0) (fun h p1 => ih 1 h p1 0) (fun h p1 => G_read_3 n 2 h p1 0) (fun h p1 => ih 2 h p1 0) h p1
theorem kf_f_X2_readClause_3_25 (h : HS) : pk (f_X2_readClause_3_25 h) (fun a => KF h a) := by
  unfold f_X2_readClause_3_25
  refine pk_ob1 (kf_f_X2_fail h 1) (fun h_15 k_1 => ?_)
  replace k_1 := KF_trans (KF_refl h) k_1
  exact pk_mono (pk_mono (w_f_X2_readClause_3_158 h_15) (fun _ k => KF_fr k (by decide))) (fun _ k => KF_trans k_1 k)
theorem kf_f_X2_readClause_3_141 (h : HS) : pk (f_X2_readClause_3_141 h) (fun a => KF h a) := by
  unfold f_X2_readClause_3_141
  refine pk_ob1 (kf_f_X2_expect h 15) (fun h_16 k_1 => ?_)
  replace k_1 := KF_trans (KF_refl h) k_1
  exact pk_mono (pk_mono (w_f_X2_readClause_3_158 (sI h_16 12 1 ((eI h_16 12 1) + 1))) (fun _ k => KF_fr k (by decide))) (fun _ k => KF_trans (KF_trans k_1 (KF_fr (Fr_sI (S := [(0, 12, 1)]) (by decide) (Fr_refl _ _)) (by decide))) k)
theorem kf_f_X2_readClause_3_119 (h : HS) (y0 : Int32) : pk (f_X2_readClause_3_119 h y0) (fun a => KF h a) := by
  unfold f_X2_readClause_3_119
  refine pk_ob1 (kf_G_read_3 200 0 h y0 0) (fun h_17 k_1 => ?_)
  replace k_1 := KF_trans (KF_refl h) k_1
  refine pk_ob1 (pk_mono (w_f_X6_closeLaw_3 h_17 (eI h_17 5 2)) (fun _ k => KF_fr k (by decide))) (fun h_18 k_2 => ?_)
  replace k_2 := KF_trans k_1 k_2
  exact pk_mono (kf_f_X2_readClause_3_141 h_18) (fun _ k => KF_trans k_2 k)
theorem kf_f_X2_readClause_3 (h : HS) : pk (f_X2_readClause_3 h) (fun a => KF h a) := by
  unfold f_X2_readClause_3
  refine pk_ob2 (pk_mono (w_f_X7_kind h) (fun _ k => KF_fr k (by decide))) (fun r_1 h_1 k_1 => ?_)
  replace k_1 := KF_trans (KF_refl h) k_1
  refine pk_if (fun _ => ?_) (fun _ => ?_)
  · exact pk_mono (kf_f_X2_readClause_3_25 (sI h_1 5 2 (r_1 - 16))) (fun _ k => KF_trans (KF_trans k_1 (KF_fr (Fr_sI (S := [(0, 5, 2)]) (by decide) (Fr_refl _ _)) (by decide))) k)
  · refine pk_if (fun _ => ?_) (fun _ => ?_)
    · refine pk_ob2 (pk_mono (w_f_X6_hasLaw_3 (sI h_1 5 2 (r_1 - 16)) (r_1 - 16)) (fun _ k => KF_fr k (by decide))) (fun r_4 h_4 k_2 => ?_)
      replace k_2 := KF_trans (KF_trans k_1 (KF_fr (Fr_sI (S := [(0, 5, 2)]) (by decide) (Fr_refl _ _)) (by decide))) k_2
      refine pk_if (fun _ => ?_) (fun _ => ?_)
      · refine pk_if (fun _ => ?_) (fun _ => ?_)
        · refine pk_ob1 (pk_mono (w_f_X6_setClause_3 h_4 (eI h_4 12 1) 0 r_1) (fun _ k => KF_fr k (by decide))) (fun h_7 k_3 => ?_)
          replace k_3 := KF_trans k_2 k_3
          refine pk_ob1 (pk_mono (w_f_X7_advance h_7) (fun _ k => KF_fr k (by decide))) (fun h_8 k_4 => ?_)
          replace k_4 := KF_trans k_3 k_4
          refine pk_if (fun _ => ?_) (fun _ => ?_)
          · refine pk_ob1 (kf_f_X2_readDeed_3 h_8 r_1) (fun h_10 k_5 => ?_)
            replace k_5 := KF_trans k_4 k_5
            exact pk_mono (kf_f_X2_readClause_3_141 h_10) (fun _ k => KF_trans k_5 k)
          · refine pk_ob1 (pk_mono (w_f_X6_beginLaw_3 h_8 (eI h_8 5 2)) (fun _ k => KF_fr k (by decide))) (fun h_11 k_6 => ?_)
            replace k_6 := KF_trans k_4 k_6
            refine pk_if (fun _ => ?_) (fun _ => ?_)
            · exact pk_mono (kf_f_X2_readClause_3_119 h_11 0) (fun _ k => KF_trans k_6 k)
            · exact pk_mono (kf_f_X2_readClause_3_119 h_11 3) (fun _ k => KF_trans k_6 k)
        · refine pk_ob1 (kf_f_X2_fail h_4 6) (fun h_13 k_7 => ?_)
          replace k_7 := KF_trans k_2 k_7
          exact pk_mono (pk_mono (w_f_X2_readClause_3_158 h_13) (fun _ k => KF_fr k (by decide))) (fun _ k => KF_trans k_7 k)
      · refine pk_ob1 (kf_f_X2_fail h_4 4) (fun h_14 k_8 => ?_)
        replace k_8 := KF_trans k_2 k_8
        exact pk_mono (pk_mono (w_f_X2_readClause_3_158 h_14) (fun _ k => KF_fr k (by decide))) (fun _ k => KF_trans k_8 k)
    · exact pk_mono (kf_f_X2_readClause_3_25 (sI h_1 5 2 (r_1 - 16))) (fun _ k => KF_trans (KF_trans k_1 (KF_fr (Fr_sI (S := [(0, 5, 2)]) (by decide) (Fr_refl _ _)) (by decide))) k)
