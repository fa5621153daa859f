theorem fs_X4_ofMarket__X3_weighGoose_3 : ∀ x ∈ S_X4_ofMarket, x ∈ S_X3_weighGoose_3 := by decide
theorem fs_X1_lookAtMarket__X3_weighGoose_3 : ∀ x ∈ S_X1_lookAtMarket, x ∈ S_X3_weighGoose_3 := by decide
theorem w_f_X3_weighGoose_64 (k3 : HS → Int32 → Int32 → Int32 → Option HS) (hk_k3 : ∀ (h : HS) (x0 : Int32) (x1 : Int32) (x2 : Int32), pk (k3 h x0 x1 x2) (fun a => Fr S_X3_weighGoose_3 h a)) : ∀ (n : Nat) (h : HS) (x3 : Int32) (x4 : Int32) (x5 : Int32) (x6 : Int32) (x7 : Int32) (x8 : Int32), pk (f_X3_weighGoose_64 k3 n h x3 x4 x5 x6 x7 x8) (fun a => Fr S_X3_weighGoose_3 h a) := by
  intro n
  induction n with
  | zero => intro h x3 x4 x5 x6 x7 x8; exact pk_none
  | succ n ih =>
    intro h x3 x4 x5 x6 x7 x8
    rw [f_X3_weighGoose_64_s]
    refine pk_if (fun _ => ?_) (fun _ => ?_)
    · exact pk_mono (hk_k3 h x3 x4 (x5 + 1)) (fun _ k => Fr_trans (Fr_refl _ h) k)
    · refine pk_ob2 (w_f_X4_ofMarket h x8 0) (fun r_9 h_9 k_1 => ?_)
      replace k_1 := Fr_trans (Fr_refl _ h) (Fr_mono fs_X4_ofMarket__X3_weighGoose_3 k_1)
      refine pk_ob1 (w_f_X1_lookAtMarket h_9 x8 ((eI h 1 7) + r_9)) (fun h_10 k_2 => ?_)
      replace k_2 := Fr_trans k_1 (Fr_mono fs_X1_lookAtMarket__X3_weighGoose_3 k_2)
      refine pk_ob2 (w_f_X1_rule h_10 0) (fun r_11 h_11 k_3 => ?_)
      replace k_3 := Fr_trans k_2 (Fr_mono fs_X1_rule__X3_weighGoose_3 k_3)
      refine pk_obf (fun r_12 => ?_)
      refine pk_if (fun _ => ?_) (fun _ => ?_)
      · exact pk_mono (w_f_X3_weighGoose_133 k3 hk_k3 (f_X3_weighGoose_64 k3 n) ih h_11 x3 x4 x5 x6 x7 x8 r_11 r_12 0 r_12) (fun _ k => Fr_trans k_3 k)
      · exact pk_mono (w_f_X3_weighGoose_133 k3 hk_k3 (f_X3_weighGoose_64 k3 n) ih h_11 x3 x4 x5 x6 x7 x8 r_11 r_12 ((10 - r_11) * 10) r_12) (fun _ k => Fr_trans k_3 k)
theorem w_f_X3_weighGoose_33 (k3 : HS → Int32 → Int32 → Int32 → Option HS) (hk_k3 : ∀ (h : HS) (x0 : Int32) (x1 : Int32) (x2 : Int32), pk (k3 h x0 x1 x2) (fun a => Fr S_X3_weighGoose_3 h a)) (h : HS) (x3 : Int32) (x4 : Int32) (x5 : Int32) (y0 : Int32) : pk (f_X3_weighGoose_33 k3 h x3 x4 x5 y0) (fun a => Fr S_X3_weighGoose_3 h a) := by
  unfold f_X3_weighGoose_33
  refine pk_obf (fun r_5 => ?_)
  refine pk_chk (fun _ => ?_)
  refine pk_chk (fun _ => ?_)
  exact pk_mono (w_f_X3_weighGoose_64 k3 hk_k3 8589934592 (sA (sA h 8 0 (upd (eA h 8 0) ((r_5).toNatClampNeg) 0)) 8 1 (upd (eA h 8 1) ((r_5).toNatClampNeg) 100)) x3 x4 x5 y0 r_5 0) (fun _ k => Fr_trans (Fr_sA fm_X3_weighGoose_3_1_8_1 (Fr_sA fm_X3_weighGoose_3_1_8_0 (Fr_refl _ h))) k)
theorem fs_X1_lookAtFilled__X3_weighGoose_3 : ∀ x ∈ S_X1_lookAtFilled, x ∈ S_X3_weighGoose_3 := by decide
theorem w_f_X3_weighGoose_3  : ∀ (n : Nat) (h : HS) (x3 : Int32) (x4 : Int32) (x5 : Int32), pk (f_X3_weighGoose_3  n h x3 x4 x5) (fun a => Fr S_X3_weighGoose_3 h a) := by
  intro n
  induction n with
  | zero => intro h x3 x4 x5; exact pk_none
  | succ n ih =>
    intro h x3 x4 x5
    rw [f_X3_weighGoose_3_s]
    refine pk_if (fun _ => ?_) (fun _ => ?_)
    · exact pk_some (Fr_refl _ h)
    · refine pk_ob1 (w_f_X1_lookAtFilled h x3 x4 x5) (fun h_2 k_1 => ?_)
      replace k_1 := Fr_trans (Fr_refl _ h) (Fr_mono fs_X1_lookAtFilled__X3_weighGoose_3 k_1)
      refine pk_ob2 (w_f_X1_rule h_2 3) (fun r_3 h_3 k_2 => ?_)
      replace k_2 := Fr_trans k_1 (Fr_mono fs_X1_rule__X3_weighGoose_3 k_2)
      refine pk_if (fun _ => ?_) (fun _ => ?_)
      · exact pk_mono (w_f_X3_weighGoose_33 (f_X3_weighGoose_3 n) ih h_3 x3 x4 x5 0) (fun _ k => Fr_trans k_2 k)
      · exact pk_mono (w_f_X3_weighGoose_33 (f_X3_weighGoose_3 n) ih h_3 x3 x4 x5 1) (fun _ k => Fr_trans k_2 k)
def S_X3_weighGoose : CL := [(0, 6, 3), (1, 6, 1), (1, 6, 2), (1, 8, 0), (1, 8, 1)]
theorem fs_X3_weighGoose_3__X3_weighGoose : ∀ x ∈ S_X3_weighGoose_3, x ∈ S_X3_weighGoose := by decide
theorem w_f_X3_weighGoose (h : HS) (p1 : Int32) (p2 : Int32) : pk (f_X3_weighGoose h p1 p2) (fun a => Fr S_X3_weighGoose h a) := by
  unfold f_X3_weighGoose
  exact pk_mono (w_f_X3_weighGoose_3 8589934592 h p1 p2 0) (fun _ k => Fr_trans (Fr_refl _ h) (Fr_mono fs_X3_weighGoose_3__X3_weighGoose k))
def S_X3_fewest_98 : CL := [(0, 8, 8), (0, 8, 12), (0, 8, 13), (0, 8, 15), (1, 8, 3), (1, 8, 4), (1, 8, 5), (1, 8, 6), (1, 8, 7), (2, 8, 9), (2, 8, 14)]
theorem fm_X3_fewest_98_2_8_9 : (2, 8, 9) ∈ S_X3_fewest_98 := by decide
theorem fm_X3_fewest_98_0_8_8 : (0, 8, 8) ∈ S_X3_fewest_98 := by decide
theorem fs_tryGeese__X3_fewest_98 : ∀ x ∈ S_tryGeese, x ∈ S_X3_fewest_98 := by decide
theorem w_f_X3_fewest_98  : ∀ (n : Nat) (h : HS) (x5 : Int32), pk (f_X3_fewest_98  n h x5) (fun a => Fr S_X3_fewest_98 h a.2) := by
  intro n
  induction n with
  | zero => intro h x5; exact pk_none
  | succ n ih =>
    intro h x5
    rw [f_X3_fewest_98_s]
    refine pk_if (fun _ => ?_) (fun _ => ?_)
    · exact pk_some (Fr_refl _ h)
    · refine pk_ob1 (w_G_tryGeese 6 0 (sL (sI h 8 8 x5) 8 9 ((eL h 8 9) * 100)) 0 0) (fun h_7 k_1 => ?_)
      replace k_1 := Fr_trans (Fr_sL fm_X3_fewest_98_2_8_9 (Fr_sI fm_X3_fewest_98_0_8_8 (Fr_refl _ h))) (Fr_mono fs_tryGeese__X3_fewest_98 k_1)
      refine pk_if (fun _ => ?_) (fun _ => ?_)
      · exact pk_mono (ih h_7 (x5 + 1)) (fun _ k => Fr_trans k_1 k)
      · exact pk_some k_1
def S_X3_fewest_31 : CL := [(0, 6, 3), (0, 8, 8), (0, 8, 12), (0, 8, 13), (0, 8, 15), (1, 6, 1), (1, 6, 2), (1, 8, 0), (1, 8, 1), (1, 8, 2), (1, 8, 3), (1, 8, 4), (1, 8, 5), (1, 8, 6), (1, 8, 7), (2, 8, 9), (2, 8, 14)]
theorem w_f_X3_fewest_89 (k31 : HS → Int32 → Int32 → Option (Int32 × HS)) (hk_k31 : ∀ (h : HS) (x0 : Int32) (x1 : Int32), pk (k31 h x0 x1) (fun a => Fr S_X3_fewest_31 h a.2)) (h : HS) (x3 : Int32) (x5 : Int32) : pk (f_X3_fewest_89 k31 h x3 x5) (fun a => Fr S_X3_fewest_31 h a.2) := by
  unfold f_X3_fewest_89
  exact pk_mono (hk_k31 h x3 (x5 + 1)) (fun _ k => Fr_trans (Fr_refl _ h) k)
theorem fm_X3_fewest_31_1_8_2 : (1, 8, 2) ∈ S_X3_fewest_31 := by decide
theorem fs_X3_weighGoose__X3_fewest_31 : ∀ x ∈ S_X3_weighGoose, x ∈ S_X3_fewest_31 := by decide
theorem w_f_X3_fewest_69 (k31 : HS → Int32 → Int32 → Option (Int32 × HS)) (hk_k31 : ∀ (h : HS) (x0 : Int32) (x1 : Int32), pk (k31 h x0 x1) (fun a => Fr S_X3_fewest_31 h a.2)) (h : HS) (x3 : Int32) (x5 : Int32) (y0 : Int32) (y1 : Int32) : pk (f_X3_fewest_69 k31 h x3 x5 y0 y1) (fun a => Fr S_X3_fewest_31 h a.2) := by
  unfold f_X3_fewest_69
  refine pk_chk (fun _ => ?_)
  refine pk_chk (fun _ => ?_)
  refine pk_if (fun _ => ?_) (fun _ => ?_)
  · exact pk_mono (w_f_X3_fewest_89 k31 hk_k31 (sA h 8 2 (upd (eA h 8 2) ((y1).toNatClampNeg) (vp_nar .boolean y0))) x3 x5) (fun _ k => Fr_trans (Fr_sA fm_X3_fewest_31_1_8_2 (Fr_refl _ h)) k)
  · refine pk_ob1 (w_f_X3_weighGoose (sA h 8 2 (upd (eA h 8 2) ((y1).toNatClampNeg) (vp_nar .boolean y0))) x5 x3) (fun h_12 k_1 => ?_)
    replace k_1 := Fr_trans (Fr_sA fm_X3_fewest_31_1_8_2 (Fr_refl _ h)) (Fr_mono fs_X3_weighGoose__X3_fewest_31 k_1)
    exact pk_mono (w_f_X3_fewest_89 k31 hk_k31 h_12 x3 x5) (fun _ k => Fr_trans k_1 k)
theorem w_f_X3_fewest_68 (k31 : HS → Int32 → Int32 → Option (Int32 × HS)) (hk_k31 : ∀ (h : HS) (x0 : Int32) (x1 : Int32), pk (k31 h x0 x1) (fun a => Fr S_X3_fewest_31 h a.2)) (h : HS) (x3 : Int32) (x5 : Int32) (y0 : Int32) : pk (f_X3_fewest_68 k31 h x3 x5 y0) (fun a => Fr S_X3_fewest_31 h a.2) := by
  unfold f_X3_fewest_68
  exact pk_mono (w_f_X3_fewest_69 k31 hk_k31 h x3 x5 0 y0) (fun _ k => Fr_trans (Fr_refl _ h) k)
theorem fs_X3_fewest_98__X3_fewest_31 : ∀ x ∈ S_X3_fewest_98, x ∈ S_X3_fewest_31 := by decide
theorem fs_X4_isFree__X3_fewest_31 : ∀ x ∈ S_X4_isFree, x ∈ S_X3_fewest_31 := by decide
theorem fs_X4_ofGoose__X3_fewest_31 : ∀ x ∈ S_X4_ofGoose, x ∈ S_X3_fewest_31 := by decide
theorem w_f_X3_fewest_31  : ∀ (n : Nat) (h : HS) (x3 : Int32) (x5 : Int32), pk (f_X3_fewest_31  n h x3 x5) (fun a => Fr S_X3_fewest_31 h a.2) := by
  intro n
  induction n with
  | zero => intro h x3 x5; exact pk_none
  | succ n ih =>
    intro h x3 x5
    rw [f_X3_fewest_31_s]
    refine pk_if (fun _ => ?_) (fun _ => ?_)
    · exact pk_mono (w_f_X3_fewest_98 8589934592 h 1) (fun _ k => Fr_trans (Fr_refl _ h) (Fr_mono fs_X3_fewest_98__X3_fewest_31 k))
    · refine pk_ob2 (w_f_X4_isFree h x5) (fun r_2 h_2 k_1 => ?_)
      replace k_1 := Fr_trans (Fr_refl _ h) (Fr_mono fs_X4_isFree__X3_fewest_31 k_1)
      refine pk_if (fun _ => ?_) (fun _ => ?_)
      · exact pk_mono (w_f_X3_fewest_68 (f_X3_fewest_31 n) ih h_2 x3 x5 x5) (fun _ k => Fr_trans k_1 k)
      · refine pk_ob2 (w_f_X4_ofGoose h_2 x5 2) (fun r_4 h_4 k_2 => ?_)
        replace k_2 := Fr_trans k_1 (Fr_mono fs_X4_ofGoose__X3_fewest_31 k_2)
        refine pk_if (fun _ => ?_) (fun _ => ?_)
        · exact pk_mono (w_f_X3_fewest_69 (f_X3_fewest_31 n) ih h_4 x3 x5 1 x5) (fun _ k => Fr_trans k_2 k)
        · exact pk_mono (w_f_X3_fewest_68 (f_X3_fewest_31 n) ih h_4 x3 x5 x5) (fun _ k => Fr_trans k_2 k)
def S_X3_fewest : CL := [(0, 6, 3), (0, 8, 8), (0, 8, 10), (0, 8, 11), (0, 8, 12), (0, 8, 13), (0, 8, 15), (1, 6, 1), (1, 6, 2), (1, 8, 0), (1, 8, 1), (1, 8, 2), (1, 8, 3), (1, 8, 4), (1, 8, 5), (1, 8, 6), (1, 8, 7), (2, 8, 9), (2, 8, 14)]
theorem fm_X3_fewest_0_8_11 : (0, 8, 11) ∈ S_X3_fewest := by decide
theorem fm_X3_fewest_0_8_12 : (0, 8, 12) ∈ S_X3_fewest := by decide
theorem fm_X3_fewest_2_8_9 : (2, 8, 9) ∈ S_X3_fewest := by decide
theorem fm_X3_fewest_0_8_10 : (0, 8, 10) ∈ S_X3_fewest := by decide
theorem fs_X3_fewest_31__X3_fewest : ∀ x ∈ S_X3_fewest_31, x ∈ S_X3_fewest := by decide
theorem w_f_X3_fewest (h : HS) (p1 : Int32) (p2 : Int32) : pk (f_X3_fewest h p1 p2) (fun a => Fr S_X3_fewest h a.2) := by
  unfold f_X3_fewest
  exact pk_mono (w_f_X3_fewest_31 8589934592 (sI (sI (sL (sI h 8 10 p2) 8 9 1) 8 12 0) 8 11 (if (eI h 1 4) < 4 then (eI h 1 4) else 4)) p1 0) (fun _ k => Fr_trans (Fr_sI fm_X3_fewest_0_8_11 (Fr_sI fm_X3_fewest_0_8_12 (Fr_sL fm_X3_fewest_2_8_9 (Fr_sI fm_X3_fewest_0_8_10 (Fr_refl _ h))))) (Fr_mono fs_X3_fewest_31__X3_fewest k))
def S_X2_fail_20 : CL := []
theorem w_f_X2_fail_20 (h : HS) : pk (f_X2_fail_20 h) (fun a => Fr S_X2_fail_20 h a) := by
  unfold f_X2_fail_20
  exact pk_some (Fr_refl _ h)
def S_X2_fail : CL := [(0, 5, 0), (0, 5, 1)]
theorem fm_X2_fail_0_5_0 : (0, 5, 0) ∈ S_X2_fail := by decide
theorem fm_X2_fail_0_5_1 : (0, 5, 1) ∈ S_X2_fail := by decide
theorem fs_X7_start__X2_fail : ∀ x ∈ S_X7_start, x ∈ S_X2_fail := by decide
theorem fs_X2_fail_20__X2_fail : ∀ x ∈ S_X2_fail_20, x ∈ S_X2_fail := by decide
theorem w_f_X2_fail (h : HS) (p1 : Int32) : pk (f_X2_fail h p1) (fun a => Fr S_X2_fail h a) := by
  unfold f_X2_fail
  refine pk_if (fun _ => ?_) (fun _ => ?_)
  · refine pk_ob2 (w_f_X7_start (sI h 5 0 p1)) (fun r_2 h_2 k_1 => ?_)
    replace k_1 := Fr_trans (Fr_sI fm_X2_fail_0_5_0 (Fr_refl _ h)) (Fr_mono fs_X7_start__X2_fail k_1)
    exact pk_mono (w_f_X2_fail_20 (sI h_2 5 1 r_2)) (fun _ k => Fr_trans (Fr_sI fm_X2_fail_0_5_1 k_1) (Fr_mono fs_X2_fail_20__X2_fail k))
  · exact pk_mono (w_f_X2_fail_20 h) (fun _ k => Fr_trans (Fr_refl _ h) (Fr_mono fs_X2_fail_20__X2_fail k))
def S_X2_expect_29 : CL := []
theorem w_f_X2_expect_29 (h : HS) : pk (f_X2_expect_29 h) (fun a => Fr S_X2_expect_29 h a) := by
  unfold f_X2_expect_29
  exact pk_some (Fr_refl _ h)
def S_X2_expect : CL := [(0, 4, 4), (0, 5, 0), (0, 5, 1)]
theorem fs_X7_kind__X2_expect : ∀ x ∈ S_X7_kind, x ∈ S_X2_expect := by decide
theorem fs_X7_advance__X2_expect : ∀ x ∈ S_X7_advance, x ∈ S_X2_expect := by decide
theorem fs_X2_expect_29__X2_expect : ∀ x ∈ S_X2_expect_29, x ∈ S_X2_expect := by decide
theorem fs_X2_fail__X2_expect : ∀ x ∈ S_X2_fail, x ∈ S_X2_expect := by decide
theorem w_f_X2_expect (h : HS) (p1 : Int32) : pk (f_X2_expect h p1) (fun a => Fr S_X2_expect h a) := by
  unfold f_X2_expect
  refine pk_if (fun _ => ?_) (fun _ => ?_)
  · refine pk_ob2 (w_f_X7_kind h) (fun r_2 h_2 k_1 => ?_)
    replace k_1 := Fr_trans (Fr_refl _ h) (Fr_mono fs_X7_kind__X2_expect k_1)
    refine pk_if (fun _ => ?_) (fun _ => ?_)
    · refine pk_ob1 (w_f_X7_advance h_2) (fun h_5 k_2 => ?_)
      replace k_2 := Fr_trans k_1 (Fr_mono fs_X7_advance__X2_expect k_2)
      exact pk_mono (w_f_X2_expect_29 h_5) (fun _ k => Fr_trans k_2 (Fr_mono fs_X2_expect_29__X2_expect k))
    · refine pk_ob1 (w_f_X2_fail h_2 1) (fun h_4 k_3 => ?_)
      replace k_3 := Fr_trans k_1 (Fr_mono fs_X2_fail__X2_expect k_3)
      exact pk_mono (w_f_X2_expect_29 h_4) (fun _ k => Fr_trans k_3 (Fr_mono fs_X2_expect_29__X2_expect k))
  · exact pk_some (Fr_refl _ h)
def S_X2_opens : CL := [(0, 4, 4), (0, 5, 0), (0, 5, 1)]
theorem fs_X7_advance__X2_opens : ∀ x ∈ S_X7_advance, x ∈ S_X2_opens := by decide
theorem fs_X2_fail__X2_opens : ∀ x ∈ S_X2_fail, x ∈ S_X2_opens := by decide
theorem w_f_X2_opens (h : HS) (p1 : Int32) : pk (f_X2_opens h p1) (fun a => Fr S_X2_opens h a.2) := by
  unfold f_X2_opens
  refine pk_if (fun _ => ?_) (fun _ => ?_)
  · refine pk_ob1 (w_f_X7_advance h) (fun h_2 k_1 => ?_)
    replace k_1 := Fr_trans (Fr_refl _ h) (Fr_mono fs_X7_advance__X2_opens k_1)
    exact pk_some k_1
  · refine pk_ob1 (w_f_X2_fail h 3) (fun h_3 k_2 => ?_)
    replace k_2 := Fr_trans (Fr_refl _ h) (Fr_mono fs_X2_fail__X2_opens k_2)
    exact pk_some k_2
def S_X2_readValue_0 : CL := [(0, 4, 4), (0, 5, 0), (0, 5, 1), (0, 9, 5), (1, 9, 2)]
theorem fs_X7_value__X2_readValue_0 : ∀ x ∈ S_X7_value, x ∈ S_X2_readValue_0 := by decide
theorem fs_X6_addStep_0__X2_readValue_0 : ∀ x ∈ S_X6_addStep_0, x ∈ S_X2_readValue_0 := by decide
theorem fs_X7_advance__X2_readValue_0 : ∀ x ∈ S_X7_advance, x ∈ S_X2_readValue_0 := by decide
theorem fs_X2_fail__X2_readValue_0 : ∀ x ∈ S_X2_fail, x ∈ S_X2_readValue_0 := by decide
theorem w_f_X2_readValue_0 (h : HS) : pk (f_X2_readValue_0 h) (fun a => Fr S_X2_readValue_0 h a) := by
  unfold f_X2_readValue_0
  refine pk_ob2 (w_f_X7_value h) (fun r_1 h_1 k_1 => ?_)
  replace k_1 := Fr_trans (Fr_refl _ h) (Fr_mono fs_X7_value__X2_readValue_0 k_1)
  refine pk_if (fun _ => ?_) (fun _ => ?_)
  · refine pk_ob2 (w_f_X7_value h_1) (fun r_3 h_3 k_2 => ?_)
    replace k_2 := Fr_trans k_1 (Fr_mono fs_X7_value__X2_readValue_0 k_2)
    refine pk_ob1 (w_f_X6_addStep_0 h_3 r_3) (fun h_4 k_3 => ?_)
    replace k_3 := Fr_trans k_2 (Fr_mono fs_X6_addStep_0__X2_readValue_0 k_3)
    refine pk_ob1 (w_f_X7_advance h_4) (fun h_5 k_4 => ?_)
    replace k_4 := Fr_trans k_3 (Fr_mono fs_X7_advance__X2_readValue_0 k_4)
    exact pk_some k_4
  · refine pk_ob1 (w_f_X2_fail h_1 2) (fun h_6 k_5 => ?_)
    replace k_5 := Fr_trans k_1 (Fr_mono fs_X2_fail__X2_readValue_0 k_5)
    exact pk_some k_5
def S_X2_readName_0_31 : CL := [(0, 4, 4), (0, 9, 5), (1, 9, 2)]
theorem fs_X7_kind__X2_readName_0_31 : ∀ x ∈ S_X7_kind, x ∈ S_X2_readName_0_31 := by decide
theorem fs_X6_addStep_0__X2_readName_0_31 : ∀ x ∈ S_X6_addStep_0, x ∈ S_X2_readName_0_31 := by decide
theorem fs_X7_advance__X2_readName_0_31 : ∀ x ∈ S_X7_advance, x ∈ S_X2_readName_0_31 := by decide
theorem w_f_X2_readName_0_31 (h : HS) : pk (f_X2_readName_0_31 h) (fun a => Fr S_X2_readName_0_31 h a) := by
  unfold f_X2_readName_0_31
  refine pk_ob2 (w_f_X7_kind h) (fun r_6 h_6 k_1 => ?_)
  replace k_1 := Fr_trans (Fr_refl _ h) (Fr_mono fs_X7_kind__X2_readName_0_31 k_1)
  refine pk_ob1 (w_f_X6_addStep_0 h_6 ((10000 + r_6) - 29)) (fun h_7 k_2 => ?_)
  replace k_2 := Fr_trans k_1 (Fr_mono fs_X6_addStep_0__X2_readName_0_31 k_2)
  refine pk_ob1 (w_f_X7_advance h_7) (fun h_8 k_3 => ?_)
  replace k_3 := Fr_trans k_2 (Fr_mono fs_X7_advance__X2_readName_0_31 k_3)
  exact pk_some k_3
def S_X2_readName_0 : CL := [(0, 4, 4), (0, 5, 0), (0, 5, 1), (0, 9, 5), (1, 9, 2)]
theorem fs_X7_kind__X2_readName_0 : ∀ x ∈ S_X7_kind, x ∈ S_X2_readName_0 := by decide
theorem fs_X2_readName_0_31__X2_readName_0 : ∀ x ∈ S_X2_readName_0_31, x ∈ S_X2_readName_0 := by decide
theorem fs_X2_fail__X2_readName_0 : ∀ x ∈ S_X2_fail, x ∈ S_X2_readName_0 := by decide
theorem w_f_X2_readName_0 (h : HS) : pk (f_X2_readName_0 h) (fun a => Fr S_X2_readName_0 h a) := by
  unfold f_X2_readName_0
  refine pk_ob2 (w_f_X7_kind h) (fun r_1 h_1 k_1 => ?_)
  replace k_1 := Fr_trans (Fr_refl _ h) (Fr_mono fs_X7_kind__X2_readName_0 k_1)
  refine pk_if (fun _ => ?_) (fun _ => ?_)
  · exact pk_mono (w_f_X2_readName_0_31 h_1) (fun _ k => Fr_trans k_1 (Fr_mono fs_X2_readName_0_31__X2_readName_0 k))
  · refine pk_if (fun _ => ?_) (fun _ => ?_)
    · exact pk_mono (w_f_X2_readName_0_31 h_1) (fun _ k => Fr_trans k_1 (Fr_mono fs_X2_readName_0_31__X2_readName_0 k))
    · refine pk_if (fun _ => ?_) (fun _ => ?_)
      · exact pk_mono (w_f_X2_readName_0_31 h_1) (fun _ k => Fr_trans k_1 (Fr_mono fs_X2_readName_0_31__X2_readName_0 k))
      · refine pk_ob1 (w_f_X2_fail h_1 5) (fun h_5 k_2 => ?_)
        replace k_2 := Fr_trans k_1 (Fr_mono fs_X2_fail__X2_readName_0 k_2)
        exact pk_some k_2
def S_X2_readNumber_0_69 : CL := []
theorem w_f_X2_readNumber_0_69 (h : HS) : pk (f_X2_readNumber_0_69 h) (fun a => Fr S_X2_readNumber_0_69 h a) := by
  unfold f_X2_readNumber_0_69
  exact pk_some (Fr_refl _ h)
def S_X2_readNumber_0_43 : CL := [(0, 5, 0), (0, 5, 1)]
theorem fs_X2_fail__X2_readNumber_0_43 : ∀ x ∈ S_X2_fail, x ∈ S_X2_readNumber_0_43 := by decide
theorem fs_X2_readNumber_0_69__X2_readNumber_0_43 : ∀ x ∈ S_X2_readNumber_0_69, x ∈ S_X2_readNumber_0_43 := by decide
theorem w_f_X2_readNumber_0_43 (h : HS) : pk (f_X2_readNumber_0_43 h) (fun a => Fr S_X2_readNumber_0_43 h a) := by
  unfold f_X2_readNumber_0_43
  refine pk_ob1 (w_f_X2_fail h 2) (fun h_12 k_1 => ?_)
  replace k_1 := Fr_trans (Fr_refl _ h) (Fr_mono fs_X2_fail__X2_readNumber_0_43 k_1)
  exact pk_mono (w_f_X2_readNumber_0_69 h_12) (fun _ k => Fr_trans k_1 (Fr_mono fs_X2_readNumber_0_69__X2_readNumber_0_43 k))
def S_X2_readNumber_0 : CL := [(0, 4, 4), (0, 5, 0), (0, 5, 1), (1, 9, 0)]
theorem fs_X7_kind__X2_readNumber_0 : ∀ x ∈ S_X7_kind, x ∈ S_X2_readNumber_0 := by decide
theorem fs_X7_value__X2_readNumber_0 : ∀ x ∈ S_X7_value, x ∈ S_X2_readNumber_0 := by decide
theorem fs_X2_readNumber_0_43__X2_readNumber_0 : ∀ x ∈ S_X2_readNumber_0_43, x ∈ S_X2_readNumber_0 := by decide
theorem fs_X6_setClause_0__X2_readNumber_0 : ∀ x ∈ S_X6_setClause_0, x ∈ S_X2_readNumber_0 := by decide
theorem fs_X7_advance__X2_readNumber_0 : ∀ x ∈ S_X7_advance, x ∈ S_X2_readNumber_0 := by decide
theorem fs_X2_readNumber_0_69__X2_readNumber_0 : ∀ x ∈ S_X2_readNumber_0_69, x ∈ S_X2_readNumber_0 := by decide
theorem fs_X2_fail__X2_readNumber_0 : ∀ x ∈ S_X2_fail, x ∈ S_X2_readNumber_0 := by decide
theorem w_f_X2_readNumber_0 (h : HS) (p1 : Int32) (p2 : Int32) (p3 : Int32) : pk (f_X2_readNumber_0 h p1 p2 p3) (fun a => Fr S_X2_readNumber_0 h a) := by
  unfold f_X2_readNumber_0
  refine pk_if (fun _ => ?_) (fun _ => ?_)
  · refine pk_ob2 (w_f_X7_kind h) (fun r_2 h_2 k_1 => ?_)
    replace k_1 := Fr_trans (Fr_refl _ h) (Fr_mono fs_X7_kind__X2_readNumber_0 k_1)
    refine pk_if (fun _ => ?_) (fun _ => ?_)
    · refine pk_ob2 (w_f_X7_value h_2) (fun r_4 h_4 k_2 => ?_)
      replace k_2 := Fr_trans k_1 (Fr_mono fs_X7_value__X2_readNumber_0 k_2)
      refine pk_if (fun _ => ?_) (fun _ => ?_)
      · exact pk_mono (w_f_X2_readNumber_0_43 h_4) (fun _ k => Fr_trans k_2 (Fr_mono fs_X2_readNumber_0_43__X2_readNumber_0 k))
      · refine pk_ob2 (w_f_X7_value h_4) (fun r_6 h_6 k_3 => ?_)
        replace k_3 := Fr_trans k_2 (Fr_mono fs_X7_value__X2_readNumber_0 k_3)
        refine pk_if (fun _ => ?_) (fun _ => ?_)
        · refine pk_ob2 (w_f_X7_value h_6) (fun r_8 h_8 k_4 => ?_)
          replace k_4 := Fr_trans k_3 (Fr_mono fs_X7_value__X2_readNumber_0 k_4)
          refine pk_ob1 (w_f_X6_setClause_0 h_8 (eI h_6 9 1) p1 r_8) (fun h_9 k_5 => ?_)
          replace k_5 := Fr_trans k_4 (Fr_mono fs_X6_setClause_0__X2_readNumber_0 k_5)
          refine pk_ob1 (w_f_X7_advance h_9) (fun h_10 k_6 => ?_)
          replace k_6 := Fr_trans k_5 (Fr_mono fs_X7_advance__X2_readNumber_0 k_6)
          exact pk_mono (w_f_X2_readNumber_0_69 h_10) (fun _ k => Fr_trans k_6 (Fr_mono fs_X2_readNumber_0_69__X2_readNumber_0 k))
        · exact pk_mono (w_f_X2_readNumber_0_43 h_6) (fun _ k => Fr_trans k_3 (Fr_mono fs_X2_readNumber_0_43__X2_readNumber_0 k))
    · refine pk_ob1 (w_f_X2_fail h_2 1) (fun h_11 k_7 => ?_)
      replace k_7 := Fr_trans k_1 (Fr_mono fs_X2_fail__X2_readNumber_0 k_7)
      exact pk_mono (w_f_X2_readNumber_0_69 h_11) (fun _ k => Fr_trans k_7 (Fr_mono fs_X2_readNumber_0_69__X2_readNumber_0 k))
  · exact pk_some (Fr_refl _ h)
def S_X2_readDeed_0_90 : CL := []
theorem w_f_X2_readDeed_0_90 (h : HS) : pk (f_X2_readDeed_0_90 h) (fun a => Fr S_X2_readDeed_0_90 h a) := by
  unfold f_X2_readDeed_0_90
  exact pk_some (Fr_refl _ h)
def S_X2_readDeed_0 : CL := [(0, 4, 4), (0, 5, 0), (0, 5, 1), (1, 9, 0)]
theorem fs_X2_readNumber_0__X2_readDeed_0 : ∀ x ∈ S_X2_readNumber_0, x ∈ S_X2_readDeed_0 := by decide
theorem fs_X2_expect__X2_readDeed_0 : ∀ x ∈ S_X2_expect, x ∈ S_X2_readDeed_0 := by decide
theorem fs_X2_readDeed_0_90__X2_readDeed_0 : ∀ x ∈ S_X2_readDeed_0_90, x ∈ S_X2_readDeed_0 := by decide
theorem w_f_X2_readDeed_0 (h : HS) (p1 : Int32) : pk (f_X2_readDeed_0 h p1) (fun a => Fr S_X2_readDeed_0 h a) := by
  unfold f_X2_readDeed_0
  refine pk_if (fun _ => ?_) (fun _ => ?_)
  · refine pk_ob1 (w_f_X2_readNumber_0 h 1 1 99) (fun h_11 k_1 => ?_)
    replace k_1 := Fr_trans (Fr_refl _ h) (Fr_mono fs_X2_readNumber_0__X2_readDeed_0 k_1)
    exact pk_some k_1
  · refine pk_ob1 (w_f_X2_readNumber_0 h 1 0 9) (fun h_2 k_2 => ?_)
    replace k_2 := Fr_trans (Fr_refl _ h) (Fr_mono fs_X2_readNumber_0__X2_readDeed_0 k_2)
    refine pk_if (fun _ => ?_) (fun _ => ?_)
    · refine pk_ob1 (w_f_X2_expect h_2 24) (fun h_7 k_3 => ?_)
      replace k_3 := Fr_trans k_2 (Fr_mono fs_X2_expect__X2_readDeed_0 k_3)
      refine pk_ob1 (w_f_X2_readNumber_0 h_7 2 0 5) (fun h_8 k_4 => ?_)
      replace k_4 := Fr_trans k_3 (Fr_mono fs_X2_readNumber_0__X2_readDeed_0 k_4)
      refine pk_ob1 (w_f_X2_expect h_8 33) (fun h_9 k_5 => ?_)
      replace k_5 := Fr_trans k_4 (Fr_mono fs_X2_expect__X2_readDeed_0 k_5)
      refine pk_ob1 (w_f_X2_readNumber_0 h_9 3 0 2) (fun h_10 k_6 => ?_)
      replace k_6 := Fr_trans k_5 (Fr_mono fs_X2_readNumber_0__X2_readDeed_0 k_6)
      exact pk_mono (w_f_X2_readDeed_0_90 h_10) (fun _ k => Fr_trans k_6 (Fr_mono fs_X2_readDeed_0_90__X2_readDeed_0 k))
    · refine pk_if (fun _ => ?_) (fun _ => ?_)
      · refine pk_ob1 (w_f_X2_expect h_2 25) (fun h_5 k_7 => ?_)
        replace k_7 := Fr_trans k_2 (Fr_mono fs_X2_expect__X2_readDeed_0 k_7)
        refine pk_ob1 (w_f_X2_readNumber_0 h_5 2 0 3) (fun h_6 k_8 => ?_)
        replace k_8 := Fr_trans k_7 (Fr_mono fs_X2_readNumber_0__X2_readDeed_0 k_8)
        exact pk_mono (w_f_X2_readDeed_0_90 h_6) (fun _ k => Fr_trans k_8 (Fr_mono fs_X2_readDeed_0_90__X2_readDeed_0 k))
      · exact pk_mono (w_f_X2_readDeed_0_90 h_2) (fun _ k => Fr_trans k_2 (Fr_mono fs_X2_readDeed_0_90__X2_readDeed_0 k))
def S_read_0 : CL := [(0, 4, 4), (0, 5, 0), (0, 5, 1), (0, 9, 5), (1, 9, 2)]
theorem w_f_X2_readLevel_0_105 (kR_X2_readLevel : HS → Int32 → Int32 → Option HS) (hk_kR_X2_readLevel : ∀ (h : HS) (x0 : Int32) (x1 : Int32), pk (kR_X2_readLevel h x0 x1) (fun a => Fr S_read_0 h a)) (kR_X2_readAsk : HS → Int32 → Option HS) (hk_kR_X2_readAsk : ∀ (h : HS) (x0 : Int32), pk (kR_X2_readAsk h x0) (fun a => Fr S_read_0 h a)) (kR_X2_readOne : HS → Int32 → Option HS) (hk_kR_X2_readOne : ∀ (h : HS) (x0 : Int32), pk (kR_X2_readOne h x0) (fun a => Fr S_read_0 h a)) (h : HS) : pk (f_X2_readLevel_0_105 kR_X2_readLevel kR_X2_readAsk kR_X2_readOne h) (fun a => Fr S_read_0 h a) := by
  unfold f_X2_readLevel_0_105
  exact pk_some (Fr_refl _ h)
theorem fs_X7_kind__read_0 : ∀ x ∈ S_X7_kind, x ∈ S_read_0 := by decide
theorem fs_X7_advance__read_0 : ∀ x ∈ S_X7_advance, x ∈ S_read_0 := by decide
theorem fs_X6_addStep_0__read_0 : ∀ x ∈ S_X6_addStep_0, x ∈ S_read_0 := by decide
theorem w_f_X2_readLevel_0_42 (kR_X2_readLevel : HS → Int32 → Int32 → Option HS) (hk_kR_X2_readLevel : ∀ (h : HS) (x0 : Int32) (x1 : Int32), pk (kR_X2_readLevel h x0 x1) (fun a => Fr S_read_0 h a)) (kR_X2_readAsk : HS → Int32 → Option HS) (hk_kR_X2_readAsk : ∀ (h : HS) (x0 : Int32), pk (kR_X2_readAsk h x0) (fun a => Fr S_read_0 h a)) (kR_X2_readOne : HS → Int32 → Option HS) (hk_kR_X2_readOne : ∀ (h : HS) (x0 : Int32), pk (kR_X2_readOne h x0) (fun a => Fr S_read_0 h a)) : ∀ (n : Nat) (h : HS) (x3 : Int32) (x4 : Int32) (x5 : Int32), pk (f_X2_readLevel_0_42 kR_X2_readLevel kR_X2_readAsk kR_X2_readOne n h x3 x4 x5) (fun a => Fr S_read_0 h a) := by
  intro n
  induction n with
  | zero => intro h x3 x4 x5; exact pk_none
  | succ n ih =>
    intro h x3 x4 x5
    rw [f_X2_readLevel_0_42_s]
    refine pk_if (fun _ => ?_) (fun _ => ?_)
    · exact pk_mono (w_f_X2_readLevel_0_105 kR_X2_readLevel hk_kR_X2_readLevel kR_X2_readAsk hk_kR_X2_readAsk kR_X2_readOne hk_kR_X2_readOne h) (fun _ k => Fr_trans (Fr_refl _ h) k)
    · refine pk_if (fun _ => ?_) (fun _ => ?_)
      · refine pk_ob2 (w_f_X7_kind h) (fun r_8 h_8 k_1 => ?_)
        replace k_1 := Fr_trans (Fr_refl _ h) (Fr_mono fs_X7_kind__read_0 k_1)
        refine pk_obf (fun r_9 => ?_)
        refine pk_if (fun _ => ?_) (fun _ => ?_)
        · refine pk_ob2 (w_f_X7_kind h_8) (fun r_11 h_11 k_2 => ?_)
          replace k_2 := Fr_trans k_1 (Fr_mono fs_X7_kind__read_0 k_2)
          refine pk_ob1 (w_f_X7_advance h_11) (fun h_12 k_3 => ?_)
          replace k_3 := Fr_trans k_2 (Fr_mono fs_X7_advance__read_0 k_3)
          refine pk_ob1 (hk_kR_X2_readLevel h_12 (x3 + 1) x4) (fun h_13 k_4 => ?_)
          replace k_4 := Fr_trans k_3 k_4
          refine pk_ob1 (w_f_X6_addStep_0 h_13 (20000 + r_11)) (fun h_14 k_5 => ?_)
          replace k_5 := Fr_trans k_4 (Fr_mono fs_X6_addStep_0__read_0 k_5)
          exact pk_mono (ih h_14 x3 x4 (x5 + 1)) (fun _ k => Fr_trans k_5 k)
        · exact pk_mono (w_f_X2_readLevel_0_105 kR_X2_readLevel hk_kR_X2_readLevel kR_X2_readAsk hk_kR_X2_readAsk kR_X2_readOne hk_kR_X2_readOne h_8) (fun _ k => Fr_trans k_1 k)
      · exact pk_mono (w_f_X2_readLevel_0_105 kR_X2_readLevel hk_kR_X2_readLevel kR_X2_readAsk hk_kR_X2_readAsk kR_X2_readOne hk_kR_X2_readOne h) (fun _ k => Fr_trans (Fr_refl _ h) k)
theorem w_f_X2_readLevel_0_b (kR_X2_readLevel : HS → Int32 → Int32 → Option HS) (hk_kR_X2_readLevel : ∀ (h : HS) (x0 : Int32) (x1 : Int32), pk (kR_X2_readLevel h x0 x1) (fun a => Fr S_read_0 h a)) (kR_X2_readAsk : HS → Int32 → Option HS) (hk_kR_X2_readAsk : ∀ (h : HS) (x0 : Int32), pk (kR_X2_readAsk h x0) (fun a => Fr S_read_0 h a)) (kR_X2_readOne : HS → Int32 → Option HS) (hk_kR_X2_readOne : ∀ (h : HS) (x0 : Int32), pk (kR_X2_readOne h x0) (fun a => Fr S_read_0 h a)) (h : HS) (p1 : Int32) (p2 : Int32) : pk (f_X2_readLevel_0_b kR_X2_readLevel kR_X2_readAsk kR_X2_readOne h p1 p2) (fun a => Fr S_read_0 h a) := by
  unfold f_X2_readLevel_0_b
  refine pk_if (fun _ => ?_) (fun _ => ?_)
  · refine pk_ob1 (hk_kR_X2_readAsk h p2) (fun h_5 k_1 => ?_)
    replace k_1 := Fr_trans (Fr_refl _ h) k_1
    exact pk_some k_1
  · refine pk_if (fun _ => ?_) (fun _ => ?_)
    · refine pk_ob1 (hk_kR_X2_readOne h p2) (fun h_4 k_2 => ?_)
      replace k_2 := Fr_trans (Fr_refl _ h) k_2
      exact pk_some k_2
    · refine pk_ob1 (hk_kR_X2_readLevel h (p1 + 1) p2) (fun h_3 k_3 => ?_)
      replace k_3 := Fr_trans (Fr_refl _ h) k_3
      exact pk_mono (w_f_X2_readLevel_0_42 kR_X2_readLevel hk_kR_X2_readLevel kR_X2_readAsk hk_kR_X2_readAsk kR_X2_readOne hk_kR_X2_readOne 8589934592 h_3 p1 p2 0) (fun _ k => Fr_trans k_3 k)
theorem w_f_X2_readAsk_0_97 (kR_X2_readLevel : HS → Int32 → Int32 → Option HS) (hk_kR_X2_readLevel : ∀ (h : HS) (x0 : Int32) (x1 : Int32), pk (kR_X2_readLevel h x0 x1) (fun a => Fr S_read_0 h a)) (kR_X2_readAsk : HS → Int32 → Option HS) (hk_kR_X2_readAsk : ∀ (h : HS) (x0 : Int32), pk (kR_X2_readAsk h x0) (fun a => Fr S_read_0 h a)) (kR_X2_readOne : HS → Int32 → Option HS) (hk_kR_X2_readOne : ∀ (h : HS) (x0 : Int32), pk (kR_X2_readOne h x0) (fun a => Fr S_read_0 h a)) (h : HS) : pk (f_X2_readAsk_0_97 kR_X2_readLevel kR_X2_readAsk kR_X2_readOne h) (fun a => Fr S_read_0 h a) := by
  unfold f_X2_readAsk_0_97
  exact pk_some (Fr_refl _ h)
theorem w_f_X2_readAsk_0_68 (kR_X2_readLevel : HS → Int32 → Int32 → Option HS) (hk_kR_X2_readLevel : ∀ (h : HS) (x0 : Int32) (x1 : Int32), pk (kR_X2_readLevel h x0 x1) (fun a => Fr S_read_0 h a)) (kR_X2_readAsk : HS → Int32 → Option HS) (hk_kR_X2_readAsk : ∀ (h : HS) (x0 : Int32), pk (kR_X2_readAsk h x0) (fun a => Fr S_read_0 h a)) (kR_X2_readOne : HS → Int32 → Option HS) (hk_kR_X2_readOne : ∀ (h : HS) (x0 : Int32), pk (kR_X2_readOne h x0) (fun a => Fr S_read_0 h a)) (h : HS) (x3 : Int32) (x4 : Int32) : pk (f_X2_readAsk_0_68 kR_X2_readLevel kR_X2_readAsk kR_X2_readOne h x3 x4) (fun a => Fr S_read_0 h a) := by
  unfold f_X2_readAsk_0_68
  refine pk_if (fun _ => ?_) (fun _ => ?_)
  · refine pk_ob1 (w_f_X7_advance h) (fun h_13 k_1 => ?_)
    replace k_1 := Fr_trans (Fr_refl _ h) (Fr_mono fs_X7_advance__read_0 k_1)
    refine pk_ob1 (hk_kR_X2_readLevel h_13 3 x3) (fun h_14 k_2 => ?_)
    replace k_2 := Fr_trans k_1 k_2
    refine pk_ob1 (w_f_X6_addStep_0 h_14 (20000 + x4)) (fun h_15 k_3 => ?_)
    replace k_3 := Fr_trans k_2 (Fr_mono fs_X6_addStep_0__read_0 k_3)
    exact pk_mono (w_f_X2_readAsk_0_97 kR_X2_readLevel hk_kR_X2_readLevel kR_X2_readAsk hk_kR_X2_readAsk kR_X2_readOne hk_kR_X2_readOne h_15) (fun _ k => Fr_trans k_3 k)
  · exact pk_mono (w_f_X2_readAsk_0_97 kR_X2_readLevel hk_kR_X2_readLevel kR_X2_readAsk hk_kR_X2_readAsk kR_X2_readOne hk_kR_X2_readOne h) (fun _ k => Fr_trans (Fr_refl _ h) k)
theorem fs_X2_fail__read_0 : ∀ x ∈ S_X2_fail, x ∈ S_read_0 := by decide
theorem w_f_X2_readAsk_0_62 (kR_X2_readLevel : HS → Int32 → Int32 → Option HS) (hk_kR_X2_readLevel : ∀ (h : HS) (x0 : Int32) (x1 : Int32), pk (kR_X2_readLevel h x0 x1) (fun a => Fr S_read_0 h a)) (kR_X2_readAsk : HS → Int32 → Option HS) (hk_kR_X2_readAsk : ∀ (h : HS) (x0 : Int32), pk (kR_X2_readAsk h x0) (fun a => Fr S_read_0 h a)) (kR_X2_readOne : HS → Int32 → Option HS) (hk_kR_X2_readOne : ∀ (h : HS) (x0 : Int32), pk (kR_X2_readOne h x0) (fun a => Fr S_read_0 h a)) (h : HS) (x3 : Int32) (x4 : Int32) : pk (f_X2_readAsk_0_62 kR_X2_readLevel kR_X2_readAsk kR_X2_readOne h x3 x4) (fun a => Fr S_read_0 h a) := by
  unfold f_X2_readAsk_0_62
  refine pk_ob1 (w_f_X2_fail h 1) (fun h_11 k_1 => ?_)
  replace k_1 := Fr_trans (Fr_refl _ h) (Fr_mono fs_X2_fail__read_0 k_1)
  exact pk_mono (w_f_X2_readAsk_0_68 kR_X2_readLevel hk_kR_X2_readLevel kR_X2_readAsk hk_kR_X2_readAsk kR_X2_readOne hk_kR_X2_readOne h_11 x3 x4) (fun _ k => Fr_trans k_1 k)
theorem w_f_X2_readAsk_0_34 (kR_X2_readLevel : HS → Int32 → Int32 → Option HS) (hk_kR_X2_readLevel : ∀ (h : HS) (x0 : Int32) (x1 : Int32), pk (kR_X2_readLevel h x0 x1) (fun a => Fr S_read_0 h a)) (kR_X2_readAsk : HS → Int32 → Option HS) (hk_kR_X2_readAsk : ∀ (h : HS) (x0 : Int32), pk (kR_X2_readAsk h x0) (fun a => Fr S_read_0 h a)) (kR_X2_readOne : HS → Int32 → Option HS) (hk_kR_X2_readOne : ∀ (h : HS) (x0 : Int32), pk (kR_X2_readOne h x0) (fun a => Fr S_read_0 h a)) (h : HS) : pk (f_X2_readAsk_0_34 kR_X2_readLevel kR_X2_readAsk kR_X2_readOne h) (fun a => Fr S_read_0 h a) := by
  unfold f_X2_readAsk_0_34
  exact pk_some (Fr_refl _ h)
theorem fs_X2_opens__read_0 : ∀ x ∈ S_X2_opens, x ∈ S_read_0 := by decide
theorem w_f_X2_readAsk_0_b (kR_X2_readLevel : HS → Int32 → Int32 → Option HS) (hk_kR_X2_readLevel : ∀ (h : HS) (x0 : Int32) (x1 : Int32), pk (kR_X2_readLevel h x0 x1) (fun a => Fr S_read_0 h a)) (kR_X2_readAsk : HS → Int32 → Option HS) (hk_kR_X2_readAsk : ∀ (h : HS) (x0 : Int32), pk (kR_X2_readAsk h x0) (fun a => Fr S_read_0 h a)) (kR_X2_readOne : HS → Int32 → Option HS) (hk_kR_X2_readOne : ∀ (h : HS) (x0 : Int32), pk (kR_X2_readOne h x0) (fun a => Fr S_read_0 h a)) (h : HS) (p1 : Int32) : pk (f_X2_readAsk_0_b kR_X2_readLevel kR_X2_readAsk kR_X2_readOne h p1) (fun a => Fr S_read_0 h a) := by
  unfold f_X2_readAsk_0_b
  refine pk_ob2 (w_f_X7_kind h) (fun r_1 h_1 k_1 => ?_)
  replace k_1 := Fr_trans (Fr_refl _ h) (Fr_mono fs_X7_kind__read_0 k_1)
  refine pk_if (fun _ => ?_) (fun _ => ?_)
  · refine pk_ob2 (w_f_X2_opens h_1 p1) (fun r_7 h_7 k_2 => ?_)
    replace k_2 := Fr_trans k_1 (Fr_mono fs_X2_opens__read_0 k_2)
    refine pk_if (fun _ => ?_) (fun _ => ?_)
    · exact pk_mono (w_f_X2_readAsk_0_34 kR_X2_readLevel hk_kR_X2_readLevel kR_X2_readAsk hk_kR_X2_readAsk kR_X2_readOne hk_kR_X2_readOne h_7) (fun _ k => Fr_trans k_2 k)
    · refine pk_ob1 (hk_kR_X2_readAsk h_7 (p1 + 1)) (fun h_9 k_3 => ?_)
      replace k_3 := Fr_trans k_2 k_3
      refine pk_ob1 (w_f_X6_addStep_0 h_9 20028) (fun h_10 k_4 => ?_)
      replace k_4 := Fr_trans k_3 (Fr_mono fs_X6_addStep_0__read_0 k_4)
      exact pk_mono (w_f_X2_readAsk_0_34 kR_X2_readLevel hk_kR_X2_readLevel kR_X2_readAsk hk_kR_X2_readAsk kR_X2_readOne hk_kR_X2_readOne h_10) (fun _ k => Fr_trans k_4 k)
  · refine pk_ob1 (hk_kR_X2_readLevel h_1 3 p1) (fun h_3 k_5 => ?_)
    replace k_5 := Fr_trans k_1 k_5
    refine pk_ob2 (w_f_X7_kind h_3) (fun r_4 h_4 k_6 => ?_)
    replace k_6 := Fr_trans k_5 (Fr_mono fs_X7_kind__read_0 k_6)
    refine pk_if (fun _ => ?_) (fun _ => ?_)
    · exact pk_mono (w_f_X2_readAsk_0_62 kR_X2_readLevel hk_kR_X2_readLevel kR_X2_readAsk hk_kR_X2_readAsk kR_X2_readOne hk_kR_X2_readOne h_4 p1 r_4) (fun _ k => Fr_trans k_6 k)
    · refine pk_if (fun _ => ?_) (fun _ => ?_)
      · exact pk_mono (w_f_X2_readAsk_0_68 kR_X2_readLevel hk_kR_X2_readLevel kR_X2_readAsk hk_kR_X2_readAsk kR_X2_readOne hk_kR_X2_readOne h_4 p1 r_4) (fun _ k => Fr_trans k_6 k)
      · exact pk_mono (w_f_X2_readAsk_0_62 kR_X2_readLevel hk_kR_X2_readLevel kR_X2_readAsk hk_kR_X2_readAsk kR_X2_readOne hk_kR_X2_readOne h_4 p1 r_4) (fun _ k => Fr_trans k_6 k)
theorem w_f_X2_readOne_0_121 (kR_X2_readLevel : HS → Int32 → Int32 → Option HS) (hk_kR_X2_readLevel : ∀ (h : HS) (x0 : Int32) (x1 : Int32), pk (kR_X2_readLevel h x0 x1) (fun a => Fr S_read_0 h a)) (kR_X2_readAsk : HS → Int32 → Option HS) (hk_kR_X2_readAsk : ∀ (h : HS) (x0 : Int32), pk (kR_X2_readAsk h x0) (fun a => Fr S_read_0 h a)) (kR_X2_readOne : HS → Int32 → Option HS) (hk_kR_X2_readOne : ∀ (h : HS) (x0 : Int32), pk (kR_X2_readOne h x0) (fun a => Fr S_read_0 h a)) (h : HS) : pk (f_X2_readOne_0_121 kR_X2_readLevel kR_X2_readAsk kR_X2_readOne h) (fun a => Fr S_read_0 h a) := by
  unfold f_X2_readOne_0_121
  exact pk_some (Fr_refl _ h)
theorem fs_X2_expect__read_0 : ∀ x ∈ S_X2_expect, x ∈ S_read_0 := by decide
theorem w_f_X2_readOne_0_44 (kR_X2_readLevel : HS → Int32 → Int32 → Option HS) (hk_kR_X2_readLevel : ∀ (h : HS) (x0 : Int32) (x1 : Int32), pk (kR_X2_readLevel h x0 x1) (fun a => Fr S_read_0 h a)) (kR_X2_readAsk : HS → Int32 → Option HS) (hk_kR_X2_readAsk : ∀ (h : HS) (x0 : Int32), pk (kR_X2_readAsk h x0) (fun a => Fr S_read_0 h a)) (kR_X2_readOne : HS → Int32 → Option HS) (hk_kR_X2_readOne : ∀ (h : HS) (x0 : Int32), pk (kR_X2_readOne h x0) (fun a => Fr S_read_0 h a)) (h : HS) (x3 : Int32) (x4 : Int32) : pk (f_X2_readOne_0_44 kR_X2_readLevel kR_X2_readAsk kR_X2_readOne h x3 x4) (fun a => Fr S_read_0 h a) := by
  unfold f_X2_readOne_0_44
  refine pk_if (fun _ => ?_) (fun _ => ?_)
  · refine pk_ob2 (w_f_X2_opens h x3) (fun r_14 h_14 k_1 => ?_)
    replace k_1 := Fr_trans (Fr_refl _ h) (Fr_mono fs_X2_opens__read_0 k_1)
    refine pk_if (fun _ => ?_) (fun _ => ?_)
    · exact pk_mono (w_f_X2_readOne_0_121 kR_X2_readLevel hk_kR_X2_readLevel kR_X2_readAsk hk_kR_X2_readAsk kR_X2_readOne hk_kR_X2_readOne h_14) (fun _ k => Fr_trans k_1 k)
    · refine pk_ob1 (hk_kR_X2_readLevel h_14 3 (x3 + 1)) (fun h_16 k_2 => ?_)
      replace k_2 := Fr_trans k_1 k_2
      refine pk_ob1 (w_f_X2_expect h_16 14) (fun h_17 k_3 => ?_)
      replace k_3 := Fr_trans k_2 (Fr_mono fs_X2_expect__read_0 k_3)
      exact pk_mono (w_f_X2_readOne_0_121 kR_X2_readLevel hk_kR_X2_readLevel kR_X2_readAsk hk_kR_X2_readAsk kR_X2_readOne hk_kR_X2_readOne h_17) (fun _ k => Fr_trans k_3 k)
  · refine pk_if (fun _ => ?_) (fun _ => ?_)
    · refine pk_ob2 (w_f_X2_opens h x3) (fun r_10 h_10 k_4 => ?_)
      replace k_4 := Fr_trans (Fr_refl _ h) (Fr_mono fs_X2_opens__read_0 k_4)
      refine pk_if (fun _ => ?_) (fun _ => ?_)
      · exact pk_mono (w_f_X2_readOne_0_121 kR_X2_readLevel hk_kR_X2_readLevel kR_X2_readAsk hk_kR_X2_readAsk kR_X2_readOne hk_kR_X2_readOne h_10) (fun _ k => Fr_trans k_4 k)
      · refine pk_ob1 (hk_kR_X2_readOne h_10 (x3 + 1)) (fun h_12 k_5 => ?_)
        replace k_5 := Fr_trans k_4 k_5
        refine pk_ob1 (w_f_X6_addStep_0 h_12 20038) (fun h_13 k_6 => ?_)
        replace k_6 := Fr_trans k_5 (Fr_mono fs_X6_addStep_0__read_0 k_6)
        exact pk_mono (w_f_X2_readOne_0_121 kR_X2_readLevel hk_kR_X2_readLevel kR_X2_readAsk hk_kR_X2_readAsk kR_X2_readOne hk_kR_X2_readOne h_13) (fun _ k => Fr_trans k_6 k)
    · refine pk_ob1 (w_f_X2_fail h 1) (fun h_9 k_7 => ?_)
      replace k_7 := Fr_trans (Fr_refl _ h) (Fr_mono fs_X2_fail__read_0 k_7)
      exact pk_mono (w_f_X2_readOne_0_121 kR_X2_readLevel hk_kR_X2_readLevel kR_X2_readAsk hk_kR_X2_readAsk kR_X2_readOne hk_kR_X2_readOne h_9) (fun _ k => Fr_trans k_7 k)
theorem fs_X2_readValue_0__read_0 : ∀ x ∈ S_X2_readValue_0, x ∈ S_read_0 := by decide
theorem fs_X2_readName_0__read_0 : ∀ x ∈ S_X2_readName_0, x ∈ S_read_0 := by decide
theorem w_f_X2_readOne_0_b (kR_X2_readLevel : HS → Int32 → Int32 → Option HS) (hk_kR_X2_readLevel : ∀ (h : HS) (x0 : Int32) (x1 : Int32), pk (kR_X2_readLevel h x0 x1) (fun a => Fr S_read_0 h a)) (kR_X2_readAsk : HS → Int32 → Option HS) (hk_kR_X2_readAsk : ∀ (h : HS) (x0 : Int32), pk (kR_X2_readAsk h x0) (fun a => Fr S_read_0 h a)) (kR_X2_readOne : HS → Int32 → Option HS) (hk_kR_X2_readOne : ∀ (h : HS) (x0 : Int32), pk (kR_X2_readOne h x0) (fun a => Fr S_read_0 h a)) (h : HS) (p1 : Int32) : pk (f_X2_readOne_0_b kR_X2_readLevel kR_X2_readAsk kR_X2_readOne h p1) (fun a => Fr S_read_0 h a) := by
  unfold f_X2_readOne_0_b
  refine pk_ob2 (w_f_X7_kind h) (fun r_1 h_1 k_1 => ?_)
  replace k_1 := Fr_trans (Fr_refl _ h) (Fr_mono fs_X7_kind__read_0 k_1)
  refine pk_if (fun _ => ?_) (fun _ => ?_)
  · refine pk_ob1 (w_f_X2_readValue_0 h_1) (fun h_6 k_2 => ?_)
    replace k_2 := Fr_trans k_1 (Fr_mono fs_X2_readValue_0__read_0 k_2)
    exact pk_mono (w_f_X2_readOne_0_121 kR_X2_readLevel hk_kR_X2_readLevel kR_X2_readAsk hk_kR_X2_readAsk kR_X2_readOne hk_kR_X2_readOne h_6) (fun _ k => Fr_trans k_2 k)
  · refine pk_if (fun _ => ?_) (fun _ => ?_)
    · exact pk_mono (w_f_X2_readOne_0_44 kR_X2_readLevel hk_kR_X2_readLevel kR_X2_readAsk hk_kR_X2_readAsk kR_X2_readOne hk_kR_X2_readOne h_1 p1 r_1) (fun _ k => Fr_trans k_1 k)
    · refine pk_if (fun _ => ?_) (fun _ => ?_)
      · exact pk_mono (w_f_X2_readOne_0_44 kR_X2_readLevel hk_kR_X2_readLevel kR_X2_readAsk hk_kR_X2_readAsk kR_X2_readOne hk_kR_X2_readOne h_1 p1 r_1) (fun _ k => Fr_trans k_1 k)
      · refine pk_ob1 (w_f_X2_readName_0 h_1) (fun h_5 k_3 => ?_)
        replace k_3 := Fr_trans k_1 (Fr_mono fs_X2_readName_0__read_0 k_3)
        exact pk_mono (w_f_X2_readOne_0_121 kR_X2_readLevel hk_kR_X2_readLevel kR_X2_readAsk hk_kR_X2_readAsk kR_X2_readOne hk_kR_X2_readOne h_5) (fun _ k => Fr_trans k_3 k)
theorem w_G_read_0 : ∀ (n t : Nat) (h : HS) (p1 p2 : Int32), pk (G_read_0 n t h p1 p2) (fun a => Fr S_read_0 h a) := by
  intro n
  induction n with
  | zero => intro t h p1 p2; exact (by simp [G_read_0]; exact pk_none)
  | succ n ih =>
    intro t h p1 p2
    match t with
    | 0 => exact w_f_X2_readLevel_0_b (fun h p1 p2 => G_read_0 n 0 h p1 p2) (fun h p1 p2 => ih 0 h p1 p2) (fun h p1 => G_read_0 n 1 h p1 0) (fun h p1 => ih 1 h p1 0) (fun h p1 => G_read_0 n 2 h p1 0) (fun h p1 => ih 2 h p1 0) h p1 p2
    | 1 => exact w_f_X2_readAsk_0_b (fun h p1 p2 => G_read_0 n 0 h p1 p2) (fun h p1 p2 => ih 0 h p1 p2) (fun h p1 => G_read_0 n 1 h p1 0) (fun h p1 => ih 1 h p1 0) (fun h p1 => G_read_0 n 2 h p1 0) (fun h p1 => ih 2 h p1 0) h p1
    | t + 2 => exact w_f_X2_readOne_0_b (fun h p1 p2 => G_read_0 n 0 h p1 p2) (fun h p1 p2 => ih 0 h p1 p2) (fun h p1 => G_read_0 n 1 h p1 0) (fun h p1 => ih 1 h p1 0) (fun h p1 => G_read_0 n 2 h p1 0) (fun h p1 => ih 2 h p1 0) h p1
def S_X2_readClause_0_158 : CL := []
theorem w_f_X2_readClause_0_158 (h : HS) : pk (f_X2_readClause_0_158 h) (fun a => Fr S_X2_readClause_0_158 h a) := by
  unfold f_X2_readClause_0_158
  exact pk_some (Fr_refl _ h)
def S_X2_readClause_0_25 : CL := [(0, 5, 0), (0, 5, 1)]
theorem fs_X2_fail__X2_readClause_0_25 : ∀ x ∈ S_X2_fail, x ∈ S_X2_readClause_0_25 := by decide
theorem fs_X2_readClause_0_158__X2_readClause_0_25 : ∀ x ∈ S_X2_readClause_0_158, x ∈ S_X2_readClause_0_25 := by decide
theorem w_f_X2_readClause_0_25 (h : HS) : pk (f_X2_readClause_0_25 h) (fun a => Fr S_X2_readClause_0_25 h a) := by
  unfold f_X2_readClause_0_25
  refine pk_ob1 (w_f_X2_fail h 1) (fun h_15 k_1 => ?_)
  replace k_1 := Fr_trans (Fr_refl _ h) (Fr_mono fs_X2_fail__X2_readClause_0_25 k_1)
  exact pk_mono (w_f_X2_readClause_0_158 h_15) (fun _ k => Fr_trans k_1 (Fr_mono fs_X2_readClause_0_158__X2_readClause_0_25 k))
def S_X2_readClause_0_141 : CL := [(0, 4, 4), (0, 5, 0), (0, 5, 1), (0, 9, 1)]
theorem fm_X2_readClause_0_141_0_9_1 : (0, 9, 1) ∈ S_X2_readClause_0_141 := by decide
theorem fs_X2_expect__X2_readClause_0_141 : ∀ x ∈ S_X2_expect, x ∈ S_X2_readClause_0_141 := by decide
theorem fs_X2_readClause_0_158__X2_readClause_0_141 : ∀ x ∈ S_X2_readClause_0_158, x ∈ S_X2_readClause_0_141 := by decide
theorem w_f_X2_readClause_0_141 (h : HS) : pk (f_X2_readClause_0_141 h) (fun a => Fr S_X2_readClause_0_141 h a) := by
  unfold f_X2_readClause_0_141
  refine pk_ob1 (w_f_X2_expect h 15) (fun h_16 k_1 => ?_)
  replace k_1 := Fr_trans (Fr_refl _ h) (Fr_mono fs_X2_expect__X2_readClause_0_141 k_1)
  exact pk_mono (w_f_X2_readClause_0_158 (sI h_16 9 1 ((eI h_16 9 1) + 1))) (fun _ k => Fr_trans (Fr_sI fm_X2_readClause_0_141_0_9_1 k_1) (Fr_mono fs_X2_readClause_0_158__X2_readClause_0_141 k))
def S_X2_readClause_0_119 : CL := [(0, 4, 4), (0, 5, 0), (0, 5, 1), (0, 9, 1), (0, 9, 5), (1, 9, 2), (1, 9, 4)]
theorem fs_read_0__X2_readClause_0_119 : ∀ x ∈ S_read_0, x ∈ S_X2_readClause_0_119 := by decide
theorem fs_X6_closeLaw_0__X2_readClause_0_119 : ∀ x ∈ S_X6_closeLaw_0, x ∈ S_X2_readClause_0_119 := by decide
theorem fs_X2_readClause_0_141__X2_readClause_0_119 : ∀ x ∈ S_X2_readClause_0_141, x ∈ S_X2_readClause_0_119 := by decide
theorem w_f_X2_readClause_0_119 (h : HS) (y0 : Int32) : pk (f_X2_readClause_0_119 h y0) (fun a => Fr S_X2_readClause_0_119 h a) := by
  unfold f_X2_readClause_0_119
  refine pk_ob1 (w_G_read_0 200 0 h y0 0) (fun h_17 k_1 => ?_)
  replace k_1 := Fr_trans (Fr_refl _ h) (Fr_mono fs_read_0__X2_readClause_0_119 k_1)
  refine pk_ob1 (w_f_X6_closeLaw_0 h_17 (eI h_17 5 2)) (fun h_18 k_2 => ?_)
  replace k_2 := Fr_trans k_1 (Fr_mono fs_X6_closeLaw_0__X2_readClause_0_119 k_2)
  exact pk_mono (w_f_X2_readClause_0_141 h_18) (fun _ k => Fr_trans k_2 (Fr_mono fs_X2_readClause_0_141__X2_readClause_0_119 k))
def S_X2_readClause_0 : CL := [(0, 4, 4), (0, 5, 0), (0, 5, 1), (0, 5, 2), (0, 9, 1), (0, 9, 5), (1, 9, 0), (1, 9, 2), (1, 9, 3), (1, 9, 4)]
theorem fm_X2_readClause_0_0_5_2 : (0, 5, 2) ∈ S_X2_readClause_0 := by decide
theorem fs_X7_kind__X2_readClause_0 : ∀ x ∈ S_X7_kind, x ∈ S_X2_readClause_0 := by decide
theorem fs_X2_readClause_0_25__X2_readClause_0 : ∀ x ∈ S_X2_readClause_0_25, x ∈ S_X2_readClause_0 := by decide
theorem fs_X6_hasLaw_0__X2_readClause_0 : ∀ x ∈ S_X6_hasLaw_0, x ∈ S_X2_readClause_0 := by decide
theorem fs_X6_setClause_0__X2_readClause_0 : ∀ x ∈ S_X6_setClause_0, x ∈ S_X2_readClause_0 := by decide
theorem fs_X7_advance__X2_readClause_0 : ∀ x ∈ S_X7_advance, x ∈ S_X2_readClause_0 := by decide
theorem fs_X2_readDeed_0__X2_readClause_0 : ∀ x ∈ S_X2_readDeed_0, x ∈ S_X2_readClause_0 := by decide
theorem fs_X2_readClause_0_141__X2_readClause_0 : ∀ x ∈ S_X2_readClause_0_141, x ∈ S_X2_readClause_0 := by decide
theorem fs_X6_beginLaw_0__X2_readClause_0 : ∀ x ∈ S_X6_beginLaw_0, x ∈ S_X2_readClause_0 := by decide
theorem fs_X2_readClause_0_119__X2_readClause_0 : ∀ x ∈ S_X2_readClause_0_119, x ∈ S_X2_readClause_0 := by decide
theorem fs_X2_fail__X2_readClause_0 : ∀ x ∈ S_X2_fail, x ∈ S_X2_readClause_0 := by decide
theorem fs_X2_readClause_0_158__X2_readClause_0 : ∀ x ∈ S_X2_readClause_0_158, x ∈ S_X2_readClause_0 := by decide
theorem w_f_X2_readClause_0 (h : HS) : pk (f_X2_readClause_0 h) (fun a => Fr S_X2_readClause_0 h a) := by
  unfold f_X2_readClause_0
  refine pk_ob2 (w_f_X7_kind h) (fun r_1 h_1 k_1 => ?_)
  replace k_1 := Fr_trans (Fr_refl _ h) (Fr_mono fs_X7_kind__X2_readClause_0 k_1)
  refine pk_if (fun _ => ?_) (fun _ => ?_)
  · exact pk_mono (w_f_X2_readClause_0_25 (sI h_1 5 2 (r_1 - 16))) (fun _ k => Fr_trans (Fr_sI fm_X2_readClause_0_0_5_2 k_1) (Fr_mono fs_X2_readClause_0_25__X2_readClause_0 k))
  · refine pk_if (fun _ => ?_) (fun _ => ?_)
    · refine pk_ob2 (w_f_X6_hasLaw_0 (sI h_1 5 2 (r_1 - 16)) (r_1 - 16)) (fun r_4 h_4 k_2 => ?_)
      replace k_2 := Fr_trans (Fr_sI fm_X2_readClause_0_0_5_2 k_1) (Fr_mono fs_X6_hasLaw_0__X2_readClause_0 k_2)
      refine pk_if (fun _ => ?_) (fun _ => ?_)
      · refine pk_if (fun _ => ?_) (fun _ => ?_)
        · refine pk_ob1 (w_f_X6_setClause_0 h_4 (eI h_4 9 1) 0 r_1) (fun h_7 k_3 => ?_)
          replace k_3 := Fr_trans k_2 (Fr_mono fs_X6_setClause_0__X2_readClause_0 k_3)
          refine pk_ob1 (w_f_X7_advance h_7) (fun h_8 k_4 => ?_)
          replace k_4 := Fr_trans k_3 (Fr_mono fs_X7_advance__X2_readClause_0 k_4)
          refine pk_if (fun _ => ?_) (fun _ => ?_)
          · refine pk_ob1 (w_f_X2_readDeed_0 h_8 r_1) (fun h_10 k_5 => ?_)
            replace k_5 := Fr_trans k_4 (Fr_mono fs_X2_readDeed_0__X2_readClause_0 k_5)
            exact pk_mono (w_f_X2_readClause_0_141 h_10) (fun _ k => Fr_trans k_5 (Fr_mono fs_X2_readClause_0_141__X2_readClause_0 k))
          · refine pk_ob1 (w_f_X6_beginLaw_0 h_8 (eI h_8 5 2)) (fun h_11 k_6 => ?_)
            replace k_6 := Fr_trans k_4 (Fr_mono fs_X6_beginLaw_0__X2_readClause_0 k_6)
            refine pk_if (fun _ => ?_) (fun _ => ?_)
            · exact pk_mono (w_f_X2_readClause_0_119 h_11 0) (fun _ k => Fr_trans k_6 (Fr_mono fs_X2_readClause_0_119__X2_readClause_0 k))
            · exact pk_mono (w_f_X2_readClause_0_119 h_11 3) (fun _ k => Fr_trans k_6 (Fr_mono fs_X2_readClause_0_119__X2_readClause_0 k))
        · refine pk_ob1 (w_f_X2_fail h_4 6) (fun h_13 k_7 => ?_)
          replace k_7 := Fr_trans k_2 (Fr_mono fs_X2_fail__X2_readClause_0 k_7)
          exact pk_mono (w_f_X2_readClause_0_158 h_13) (fun _ k => Fr_trans k_7 (Fr_mono fs_X2_readClause_0_158__X2_readClause_0 k))
      · refine pk_ob1 (w_f_X2_fail h_4 4) (fun h_14 k_8 => ?_)
        replace k_8 := Fr_trans k_2 (Fr_mono fs_X2_fail__X2_readClause_0 k_8)
        exact pk_mono (w_f_X2_readClause_0_158 h_14) (fun _ k => Fr_trans k_8 (Fr_mono fs_X2_readClause_0_158__X2_readClause_0 k))
    · exact pk_mono (w_f_X2_readClause_0_25 (sI h_1 5 2 (r_1 - 16))) (fun _ k => Fr_trans (Fr_sI fm_X2_readClause_0_0_5_2 k_1) (Fr_mono fs_X2_readClause_0_25__X2_readClause_0 k))
def S_X2_parse_0_48 : CL := []
theorem w_f_X2_parse_0_48 (h : HS) : pk (f_X2_parse_0_48 h) (fun a => Fr S_X2_parse_0_48 h a) := by
  unfold f_X2_parse_0_48
  exact pk_some (Fr_refl _ h)
def S_X2_parse_0_16 : CL := [(0, 4, 4), (0, 5, 0), (0, 5, 1), (0, 5, 2), (0, 9, 1), (0, 9, 5), (1, 9, 0), (1, 9, 2), (1, 9, 3), (1, 9, 4)]
theorem fs_X2_parse_0_48__X2_parse_0_16 : ∀ x ∈ S_X2_parse_0_48, x ∈ S_X2_parse_0_16 := by decide
theorem fs_X7_kind__X2_parse_0_16 : ∀ x ∈ S_X7_kind, x ∈ S_X2_parse_0_16 := by decide
theorem fs_X2_readClause_0__X2_parse_0_16 : ∀ x ∈ S_X2_readClause_0, x ∈ S_X2_parse_0_16 := by decide
theorem w_f_X2_parse_0_16  : ∀ (n : Nat) (h : HS) (x3 : Int32), pk (f_X2_parse_0_16  n h x3) (fun a => Fr S_X2_parse_0_16 h a) := by
  intro n
  induction n with
  | zero => intro h x3; exact pk_none
  | succ n ih =>
    intro h x3
    rw [f_X2_parse_0_16_s]
    refine pk_if (fun _ => ?_) (fun _ => ?_)
    · exact pk_mono (w_f_X2_parse_0_48 h) (fun _ k => Fr_trans (Fr_refl _ h) (Fr_mono fs_X2_parse_0_48__X2_parse_0_16 k))
    · refine pk_if (fun _ => ?_) (fun _ => ?_)
      · refine pk_ob2 (w_f_X7_kind h) (fun r_4 h_4 k_1 => ?_)
        replace k_1 := Fr_trans (Fr_refl _ h) (Fr_mono fs_X7_kind__X2_parse_0_16 k_1)
        refine pk_if (fun _ => ?_) (fun _ => ?_)
        · exact pk_mono (w_f_X2_parse_0_48 h_4) (fun _ k => Fr_trans k_1 (Fr_mono fs_X2_parse_0_48__X2_parse_0_16 k))
        · refine pk_ob1 (w_f_X2_readClause_0 h_4) (fun h_6 k_2 => ?_)
          replace k_2 := Fr_trans k_1 (Fr_mono fs_X2_readClause_0__X2_parse_0_16 k_2)
          exact pk_mono (ih h_6 (x3 + 1)) (fun _ k => Fr_trans k_2 k)
      · exact pk_mono (w_f_X2_parse_0_48 h) (fun _ k => Fr_trans (Fr_refl _ h) (Fr_mono fs_X2_parse_0_48__X2_parse_0_16 k))
def S_X2_parse_0 : CL := [(0, 4, 4), (0, 5, 0), (0, 5, 1), (0, 5, 2), (0, 9, 1), (0, 9, 5), (1, 9, 0), (1, 9, 2), (1, 9, 3), (1, 9, 4)]
theorem fm_X2_parse_0_0_5_1 : (0, 5, 1) ∈ S_X2_parse_0 := by decide
theorem fm_X2_parse_0_0_5_0 : (0, 5, 0) ∈ S_X2_parse_0 := by decide
theorem fs_X6_clear_0__X2_parse_0 : ∀ x ∈ S_X6_clear_0, x ∈ S_X2_parse_0 := by decide
theorem fs_X2_parse_0_16__X2_parse_0 : ∀ x ∈ S_X2_parse_0_16, x ∈ S_X2_parse_0 := by decide
theorem w_f_X2_parse_0 (h : HS) : pk (f_X2_parse_0 h) (fun a => Fr S_X2_parse_0 h a) := by
  unfold f_X2_parse_0
  refine pk_ob1 (w_f_X6_clear_0 (sI (sI h 5 0 0) 5 1 (-1))) (fun h_1 k_1 => ?_)
  replace k_1 := Fr_trans (Fr_sI fm_X2_parse_0_0_5_1 (Fr_sI fm_X2_parse_0_0_5_0 (Fr_refl _ h))) (Fr_mono fs_X6_clear_0__X2_parse_0 k_1)
  exact pk_mono (w_f_X2_parse_0_16 8589934592 h_1 0) (fun _ k => Fr_trans k_1 (Fr_mono fs_X2_parse_0_16__X2_parse_0 k))
def S_X2_readValue_1 : CL := [(0, 4, 4), (0, 5, 0), (0, 5, 1), (0, 10, 5), (1, 10, 2)]
theorem fs_X7_value__X2_readValue_1 : ∀ x ∈ S_X7_value, x ∈ S_X2_readValue_1 := by decide
theorem fs_X6_addStep_1__X2_readValue_1 : ∀ x ∈ S_X6_addStep_1, x ∈ S_X2_readValue_1 := by decide
theorem fs_X7_advance__X2_readValue_1 : ∀ x ∈ S_X7_advance, x ∈ S_X2_readValue_1 := by decide
theorem fs_X2_fail__X2_readValue_1 : ∀ x ∈ S_X2_fail, x ∈ S_X2_readValue_1 := by decide
theorem w_f_X2_readValue_1 (h : HS) : pk (f_X2_readValue_1 h) (fun a => Fr S_X2_readValue_1 h a) := by
  unfold f_X2_readValue_1
  refine pk_ob2 (w_f_X7_value h) (fun r_1 h_1 k_1 => ?_)
  replace k_1 := Fr_trans (Fr_refl _ h) (Fr_mono fs_X7_value__X2_readValue_1 k_1)
  refine pk_if (fun _ => ?_) (fun _ => ?_)
  · refine pk_ob2 (w_f_X7_value h_1) (fun r_3 h_3 k_2 => ?_)
    replace k_2 := Fr_trans k_1 (Fr_mono fs_X7_value__X2_readValue_1 k_2)
    refine pk_ob1 (w_f_X6_addStep_1 h_3 r_3) (fun h_4 k_3 => ?_)
    replace k_3 := Fr_trans k_2 (Fr_mono fs_X6_addStep_1__X2_readValue_1 k_3)
    refine pk_ob1 (w_f_X7_advance h_4) (fun h_5 k_4 => ?_)
    replace k_4 := Fr_trans k_3 (Fr_mono fs_X7_advance__X2_readValue_1 k_4)
    exact pk_some k_4
  · refine pk_ob1 (w_f_X2_fail h_1 2) (fun h_6 k_5 => ?_)
    replace k_5 := Fr_trans k_1 (Fr_mono fs_X2_fail__X2_readValue_1 k_5)
    exact pk_some k_5
def S_X2_readName_1_31 : CL := [(0, 4, 4), (0, 10, 5), (1, 10, 2)]
theorem fs_X7_kind__X2_readName_1_31 : ∀ x ∈ S_X7_kind, x ∈ S_X2_readName_1_31 := by decide
theorem fs_X6_addStep_1__X2_readName_1_31 : ∀ x ∈ S_X6_addStep_1, x ∈ S_X2_readName_1_31 := by decide
theorem fs_X7_advance__X2_readName_1_31 : ∀ x ∈ S_X7_advance, x ∈ S_X2_readName_1_31 := by decide
theorem w_f_X2_readName_1_31 (h : HS) : pk (f_X2_readName_1_31 h) (fun a => Fr S_X2_readName_1_31 h a) := by
  unfold f_X2_readName_1_31
  refine pk_ob2 (w_f_X7_kind h) (fun r_6 h_6 k_1 => ?_)
  replace k_1 := Fr_trans (Fr_refl _ h) (Fr_mono fs_X7_kind__X2_readName_1_31 k_1)
  refine pk_ob1 (w_f_X6_addStep_1 h_6 ((10000 + r_6) - 29)) (fun h_7 k_2 => ?_)
  replace k_2 := Fr_trans k_1 (Fr_mono fs_X6_addStep_1__X2_readName_1_31 k_2)
  refine pk_ob1 (w_f_X7_advance h_7) (fun h_8 k_3 => ?_)
  replace k_3 := Fr_trans k_2 (Fr_mono fs_X7_advance__X2_readName_1_31 k_3)
  exact pk_some k_3
def S_X2_readName_1 : CL := [(0, 4, 4), (0, 5, 0), (0, 5, 1), (0, 10, 5), (1, 10, 2)]
theorem fs_X7_kind__X2_readName_1 : ∀ x ∈ S_X7_kind, x ∈ S_X2_readName_1 := by decide
theorem fs_X2_readName_1_31__X2_readName_1 : ∀ x ∈ S_X2_readName_1_31, x ∈ S_X2_readName_1 := by decide
theorem fs_X2_fail__X2_readName_1 : ∀ x ∈ S_X2_fail, x ∈ S_X2_readName_1 := by decide
theorem w_f_X2_readName_1 (h : HS) : pk (f_X2_readName_1 h) (fun a => Fr S_X2_readName_1 h a) := by
  unfold f_X2_readName_1
  refine pk_ob2 (w_f_X7_kind h) (fun r_1 h_1 k_1 => ?_)
  replace k_1 := Fr_trans (Fr_refl _ h) (Fr_mono fs_X7_kind__X2_readName_1 k_1)
  refine pk_if (fun _ => ?_) (fun _ => ?_)
  · exact pk_mono (w_f_X2_readName_1_31 h_1) (fun _ k => Fr_trans k_1 (Fr_mono fs_X2_readName_1_31__X2_readName_1 k))
  · refine pk_if (fun _ => ?_) (fun _ => ?_)
    · exact pk_mono (w_f_X2_readName_1_31 h_1) (fun _ k => Fr_trans k_1 (Fr_mono fs_X2_readName_1_31__X2_readName_1 k))
    · refine pk_if (fun _ => ?_) (fun _ => ?_)
      · exact pk_mono (w_f_X2_readName_1_31 h_1) (fun _ k => Fr_trans k_1 (Fr_mono fs_X2_readName_1_31__X2_readName_1 k))
      · refine pk_ob1 (w_f_X2_fail h_1 5) (fun h_5 k_2 => ?_)
        replace k_2 := Fr_trans k_1 (Fr_mono fs_X2_fail__X2_readName_1 k_2)
        exact pk_some k_2
def S_X2_readNumber_1_69 : CL := []
theorem w_f_X2_readNumber_1_69 (h : HS) : pk (f_X2_readNumber_1_69 h) (fun a => Fr S_X2_readNumber_1_69 h a) := by
  unfold f_X2_readNumber_1_69
  exact pk_some (Fr_refl _ h)
def S_X2_readNumber_1_43 : CL := [(0, 5, 0), (0, 5, 1)]
theorem fs_X2_fail__X2_readNumber_1_43 : ∀ x ∈ S_X2_fail, x ∈ S_X2_readNumber_1_43 := by decide
theorem fs_X2_readNumber_1_69__X2_readNumber_1_43 : ∀ x ∈ S_X2_readNumber_1_69, x ∈ S_X2_readNumber_1_43 := by decide
theorem w_f_X2_readNumber_1_43 (h : HS) : pk (f_X2_readNumber_1_43 h) (fun a => Fr S_X2_readNumber_1_43 h a) := by
  unfold f_X2_readNumber_1_43
  refine pk_ob1 (w_f_X2_fail h 2) (fun h_12 k_1 => ?_)
  replace k_1 := Fr_trans (Fr_refl _ h) (Fr_mono fs_X2_fail__X2_readNumber_1_43 k_1)
  exact pk_mono (w_f_X2_readNumber_1_69 h_12) (fun _ k => Fr_trans k_1 (Fr_mono fs_X2_readNumber_1_69__X2_readNumber_1_43 k))
def S_X2_readNumber_1 : CL := [(0, 4, 4), (0, 5, 0), (0, 5, 1), (1, 10, 0)]
theorem fs_X7_kind__X2_readNumber_1 : ∀ x ∈ S_X7_kind, x ∈ S_X2_readNumber_1 := by decide
theorem fs_X7_value__X2_readNumber_1 : ∀ x ∈ S_X7_value, x ∈ S_X2_readNumber_1 := by decide
theorem fs_X2_readNumber_1_43__X2_readNumber_1 : ∀ x ∈ S_X2_readNumber_1_43, x ∈ S_X2_readNumber_1 := by decide
theorem fs_X6_setClause_1__X2_readNumber_1 : ∀ x ∈ S_X6_setClause_1, x ∈ S_X2_readNumber_1 := by decide
theorem fs_X7_advance__X2_readNumber_1 : ∀ x ∈ S_X7_advance, x ∈ S_X2_readNumber_1 := by decide
theorem fs_X2_readNumber_1_69__X2_readNumber_1 : ∀ x ∈ S_X2_readNumber_1_69, x ∈ S_X2_readNumber_1 := by decide
theorem fs_X2_fail__X2_readNumber_1 : ∀ x ∈ S_X2_fail, x ∈ S_X2_readNumber_1 := by decide
theorem w_f_X2_readNumber_1 (h : HS) (p1 : Int32) (p2 : Int32) (p3 : Int32) : pk (f_X2_readNumber_1 h p1 p2 p3) (fun a => Fr S_X2_readNumber_1 h a) := by
  unfold f_X2_readNumber_1
  refine pk_if (fun _ => ?_) (fun _ => ?_)
  · refine pk_ob2 (w_f_X7_kind h) (fun r_2 h_2 k_1 => ?_)
    replace k_1 := Fr_trans (Fr_refl _ h) (Fr_mono fs_X7_kind__X2_readNumber_1 k_1)
    refine pk_if (fun _ => ?_) (fun _ => ?_)
    · refine pk_ob2 (w_f_X7_value h_2) (fun r_4 h_4 k_2 => ?_)
      replace k_2 := Fr_trans k_1 (Fr_mono fs_X7_value__X2_readNumber_1 k_2)
      refine pk_if (fun _ => ?_) (fun _ => ?_)
      · exact pk_mono (w_f_X2_readNumber_1_43 h_4) (fun _ k => Fr_trans k_2 (Fr_mono fs_X2_readNumber_1_43__X2_readNumber_1 k))
      · refine pk_ob2 (w_f_X7_value h_4) (fun r_6 h_6 k_3 => ?_)
        replace k_3 := Fr_trans k_2 (Fr_mono fs_X7_value__X2_readNumber_1 k_3)
        refine pk_if (fun _ => ?_) (fun _ => ?_)
        · refine pk_ob2 (w_f_X7_value h_6) (fun r_8 h_8 k_4 => ?_)
          replace k_4 := Fr_trans k_3 (Fr_mono fs_X7_value__X2_readNumber_1 k_4)
          refine pk_ob1 (w_f_X6_setClause_1 h_8 (eI h_6 10 1) p1 r_8) (fun h_9 k_5 => ?_)
          replace k_5 := Fr_trans k_4 (Fr_mono fs_X6_setClause_1__X2_readNumber_1 k_5)
          refine pk_ob1 (w_f_X7_advance h_9) (fun h_10 k_6 => ?_)
          replace k_6 := Fr_trans k_5 (Fr_mono fs_X7_advance__X2_readNumber_1 k_6)
          exact pk_mono (w_f_X2_readNumber_1_69 h_10) (fun _ k => Fr_trans k_6 (Fr_mono fs_X2_readNumber_1_69__X2_readNumber_1 k))
        · exact pk_mono (w_f_X2_readNumber_1_43 h_6) (fun _ k => Fr_trans k_3 (Fr_mono fs_X2_readNumber_1_43__X2_readNumber_1 k))
    · refine pk_ob1 (w_f_X2_fail h_2 1) (fun h_11 k_7 => ?_)
      replace k_7 := Fr_trans k_1 (Fr_mono fs_X2_fail__X2_readNumber_1 k_7)
      exact pk_mono (w_f_X2_readNumber_1_69 h_11) (fun _ k => Fr_trans k_7 (Fr_mono fs_X2_readNumber_1_69__X2_readNumber_1 k))
  · exact pk_some (Fr_refl _ h)
def S_X2_readDeed_1_90 : CL := []
theorem w_f_X2_readDeed_1_90 (h : HS) : pk (f_X2_readDeed_1_90 h) (fun a => Fr S_X2_readDeed_1_90 h a) := by
  unfold f_X2_readDeed_1_90
  exact pk_some (Fr_refl _ h)
def S_X2_readDeed_1 : CL := [(0, 4, 4), (0, 5, 0), (0, 5, 1), (1, 10, 0)]
theorem fs_X2_readNumber_1__X2_readDeed_1 : ∀ x ∈ S_X2_readNumber_1, x ∈ S_X2_readDeed_1 := by decide
theorem fs_X2_expect__X2_readDeed_1 : ∀ x ∈ S_X2_expect, x ∈ S_X2_readDeed_1 := by decide
theorem fs_X2_readDeed_1_90__X2_readDeed_1 : ∀ x ∈ S_X2_readDeed_1_90, x ∈ S_X2_readDeed_1 := by decide
theorem w_f_X2_readDeed_1 (h : HS) (p1 : Int32) : pk (f_X2_readDeed_1 h p1) (fun a => Fr S_X2_readDeed_1 h a) := by
  unfold f_X2_readDeed_1
  refine pk_if (fun _ => ?_) (fun _ => ?_)
  · refine pk_ob1 (w_f_X2_readNumber_1 h 1 1 99) (fun h_11 k_1 => ?_)
    replace k_1 := Fr_trans (Fr_refl _ h) (Fr_mono fs_X2_readNumber_1__X2_readDeed_1 k_1)
    exact pk_some k_1
  · refine pk_ob1 (w_f_X2_readNumber_1 h 1 0 9) (fun h_2 k_2 => ?_)
    replace k_2 := Fr_trans (Fr_refl _ h) (Fr_mono fs_X2_readNumber_1__X2_readDeed_1 k_2)
    refine pk_if (fun _ => ?_) (fun _ => ?_)
    · refine pk_ob1 (w_f_X2_expect h_2 24) (fun h_7 k_3 => ?_)
      replace k_3 := Fr_trans k_2 (Fr_mono fs_X2_expect__X2_readDeed_1 k_3)
      refine pk_ob1 (w_f_X2_readNumber_1 h_7 2 0 5) (fun h_8 k_4 => ?_)
      replace k_4 := Fr_trans k_3 (Fr_mono fs_X2_readNumber_1__X2_readDeed_1 k_4)
      refine pk_ob1 (w_f_X2_expect h_8 33) (fun h_9 k_5 => ?_)
      replace k_5 := Fr_trans k_4 (Fr_mono fs_X2_expect__X2_readDeed_1 k_5)
      refine pk_ob1 (w_f_X2_readNumber_1 h_9 3 0 2) (fun h_10 k_6 => ?_)
      replace k_6 := Fr_trans k_5 (Fr_mono fs_X2_readNumber_1__X2_readDeed_1 k_6)
      exact pk_mono (w_f_X2_readDeed_1_90 h_10) (fun _ k => Fr_trans k_6 (Fr_mono fs_X2_readDeed_1_90__X2_readDeed_1 k))
    · refine pk_if (fun _ => ?_) (fun _ => ?_)
      · refine pk_ob1 (w_f_X2_expect h_2 25) (fun h_5 k_7 => ?_)
        replace k_7 := Fr_trans k_2 (Fr_mono fs_X2_expect__X2_readDeed_1 k_7)
        refine pk_ob1 (w_f_X2_readNumber_1 h_5 2 0 3) (fun h_6 k_8 => ?_)
        replace k_8 := Fr_trans k_7 (Fr_mono fs_X2_readNumber_1__X2_readDeed_1 k_8)
        exact pk_mono (w_f_X2_readDeed_1_90 h_6) (fun _ k => Fr_trans k_8 (Fr_mono fs_X2_readDeed_1_90__X2_readDeed_1 k))
      · exact pk_mono (w_f_X2_readDeed_1_90 h_2) (fun _ k => Fr_trans k_2 (Fr_mono fs_X2_readDeed_1_90__X2_readDeed_1 k))
def S_read_1 : CL := [(0, 4, 4), (0, 5, 0), (0, 5, 1), (0, 10, 5), (1, 10, 2)]
theorem w_f_X2_readLevel_1_105 (kR_X2_readLevel : HS → Int32 → Int32 → Option HS) (hk_kR_X2_readLevel : ∀ (h : HS) (x0 : Int32) (x1 : Int32), pk (kR_X2_readLevel h x0 x1) (fun a => Fr S_read_1 h a)) (kR_X2_readAsk : HS → Int32 → Option HS) (hk_kR_X2_readAsk : ∀ (h : HS) (x0 : Int32), pk (kR_X2_readAsk h x0) (fun a => Fr S_read_1 h a)) (kR_X2_readOne : HS → Int32 → Option HS) (hk_kR_X2_readOne : ∀ (h : HS) (x0 : Int32), pk (kR_X2_readOne h x0) (fun a => Fr S_read_1 h a)) (h : HS) : pk (f_X2_readLevel_1_105 kR_X2_readLevel kR_X2_readAsk kR_X2_readOne h) (fun a => Fr S_read_1 h a) := by
  unfold f_X2_readLevel_1_105
  exact pk_some (Fr_refl _ h)
theorem fs_X7_kind__read_1 : ∀ x ∈ S_X7_kind, x ∈ S_read_1 := by decide
theorem fs_X7_advance__read_1 : ∀ x ∈ S_X7_advance, x ∈ S_read_1 := by decide
theorem fs_X6_addStep_1__read_1 : ∀ x ∈ S_X6_addStep_1, x ∈ S_read_1 := by decide
theorem w_f_X2_readLevel_1_42 (kR_X2_readLevel : HS → Int32 → Int32 → Option HS) (hk_kR_X2_readLevel : ∀ (h : HS) (x0 : Int32) (x1 : Int32), pk (kR_X2_readLevel h x0 x1) (fun a => Fr S_read_1 h a)) (kR_X2_readAsk : HS → Int32 → Option HS) (hk_kR_X2_readAsk : ∀ (h : HS) (x0 : Int32), pk (kR_X2_readAsk h x0) (fun a => Fr S_read_1 h a)) (kR_X2_readOne : HS → Int32 → Option HS) (hk_kR_X2_readOne : ∀ (h : HS) (x0 : Int32), pk (kR_X2_readOne h x0) (fun a => Fr S_read_1 h a)) : ∀ (n : Nat) (h : HS) (x3 : Int32) (x4 : Int32) (x5 : Int32), pk (f_X2_readLevel_1_42 kR_X2_readLevel kR_X2_readAsk kR_X2_readOne n h x3 x4 x5) (fun a => Fr S_read_1 h a) := by
  intro n
  induction n with
  | zero => intro h x3 x4 x5; exact pk_none
  | succ n ih =>
    intro h x3 x4 x5
    rw [f_X2_readLevel_1_42_s]
    refine pk_if (fun _ => ?_) (fun _ => ?_)
    · exact pk_mono (w_f_X2_readLevel_1_105 kR_X2_readLevel hk_kR_X2_readLevel kR_X2_readAsk hk_kR_X2_readAsk kR_X2_readOne hk_kR_X2_readOne h) (fun _ k => Fr_trans (Fr_refl _ h) k)
    · refine pk_if (fun _ => ?_) (fun _ => ?_)
      · refine pk_ob2 (w_f_X7_kind h) (fun r_8 h_8 k_1 => ?_)
        replace k_1 := Fr_trans (Fr_refl _ h) (Fr_mono fs_X7_kind__read_1 k_1)
        refine pk_obf (fun r_9 => ?_)
        refine pk_if (fun _ => ?_) (fun _ => ?_)
        · refine pk_ob2 (w_f_X7_kind h_8) (fun r_11 h_11 k_2 => ?_)
          replace k_2 := Fr_trans k_1 (Fr_mono fs_X7_kind__read_1 k_2)
          refine pk_ob1 (w_f_X7_advance h_11) (fun h_12 k_3 => ?_)
          replace k_3 := Fr_trans k_2 (Fr_mono fs_X7_advance__read_1 k_3)
          refine pk_ob1 (hk_kR_X2_readLevel h_12 (x3 + 1) x4) (fun h_13 k_4 => ?_)
          replace k_4 := Fr_trans k_3 k_4
          refine pk_ob1 (w_f_X6_addStep_1 h_13 (20000 + r_11)) (fun h_14 k_5 => ?_)
          replace k_5 := Fr_trans k_4 (Fr_mono fs_X6_addStep_1__read_1 k_5)
          exact pk_mono (ih h_14 x3 x4 (x5 + 1)) (fun _ k => Fr_trans k_5 k)
        · exact pk_mono (w_f_X2_readLevel_1_105 kR_X2_readLevel hk_kR_X2_readLevel kR_X2_readAsk hk_kR_X2_readAsk kR_X2_readOne hk_kR_X2_readOne h_8) (fun _ k => Fr_trans k_1 k)
      · exact pk_mono (w_f_X2_readLevel_1_105 kR_X2_readLevel hk_kR_X2_readLevel kR_X2_readAsk hk_kR_X2_readAsk kR_X2_readOne hk_kR_X2_readOne h) (fun _ k => Fr_trans (Fr_refl _ h) k)
