theorem w_f_X9_odds (h : HS) (p1 : Int32) (p2 : Int32) (p3 : Int32) : pk (f_X9_odds h p1 p2 p3) (fun a => Fr S_X9_odds h a.2) := by
  unfold f_X9_odds
  refine pk_obf (fun r_1 => ?_)
  refine pk_if (fun _ => ?_) (fun _ => ?_)
  · exact pk_mono (w_f_X9_odds_16 h) (fun _ k => Fr_trans (Fr_refl _ h) (Fr_mono fs_X9_odds_16__X9_odds k))
  · refine pk_obf (fun r_3 => ?_)
    refine pk_if (fun _ => ?_) (fun _ => ?_)
    · exact pk_mono (w_f_X9_odds_16 h) (fun _ k => Fr_trans (Fr_refl _ h) (Fr_mono fs_X9_odds_16__X9_odds k))
    · refine pk_ob2 (w_f_X9_knownBy h p1 999 0) (fun r_5 h_5 k_1 => ?_)
      replace k_1 := Fr_trans (Fr_refl _ h) (Fr_mono fs_X9_knownBy__X9_odds k_1)
      refine pk_ob2 (w_f_X9_knownBy h_5 p1 999 1) (fun r_6 h_6 k_2 => ?_)
      replace k_2 := Fr_trans k_1 (Fr_mono fs_X9_knownBy__X9_odds k_2)
      refine pk_ob1 (w_f_X9_startsMany h_6 r_5 r_6) (fun h_7 k_3 => ?_)
      replace k_3 := Fr_trans k_2 (Fr_mono fs_X9_startsMany__X9_odds k_3)
      exact pk_mono (w_f_X9_odds_51 8589934592 h_7 p1 p2 p3 0 1 0) (fun _ k => Fr_trans k_3 (Fr_mono fs_X9_odds_51__X9_odds k))
def S_X9_laysFlock_7 : CL := [(0, 0, 47), (1, 0, 39), (1, 0, 43), (1, 0, 44), (1, 0, 45), (1, 0, 46), (3, 0, 40)]
theorem w_f_X9_laysFlock_188 (k7 : HS → Int32 → Int32 → Option HS) (hk_k7 : ∀ (h : HS) (x0 : Int32) (x1 : Int32), pk (k7 h x0 x1) (fun a => Fr S_X9_laysFlock_7 h a)) (h : HS) (x1 : Int32) (x2 : Int32) : pk (f_X9_laysFlock_188 k7 h x1 x2) (fun a => Fr S_X9_laysFlock_7 h a) := by
  unfold f_X9_laysFlock_188
  exact pk_mono (hk_k7 h x1 (x2 + 1)) (fun _ k => Fr_trans (Fr_refl _ h) k)
theorem fm_X9_laysFlock_7_1_0_43 : (1, 0, 43) ∈ S_X9_laysFlock_7 := by decide
theorem fm_X9_laysFlock_7_1_0_44 : (1, 0, 44) ∈ S_X9_laysFlock_7 := by decide
theorem fm_X9_laysFlock_7_1_0_45 : (1, 0, 45) ∈ S_X9_laysFlock_7 := by decide
theorem fs_X9_marketTells__X9_laysFlock_7 : ∀ x ∈ S_X9_marketTells, x ∈ S_X9_laysFlock_7 := by decide
theorem fs_X9_ofGoose__X9_laysFlock_7 : ∀ x ∈ S_X9_ofGoose, x ∈ S_X9_laysFlock_7 := by decide
theorem fs_X9_isTrueBy__X9_laysFlock_7 : ∀ x ∈ S_X9_isTrueBy, x ∈ S_X9_laysFlock_7 := by decide
theorem w_f_X9_laysFlock_67 (k7 : HS → Int32 → Int32 → Option HS) (hk_k7 : ∀ (h : HS) (x0 : Int32) (x1 : Int32), pk (k7 h x0 x1) (fun a => Fr S_X9_laysFlock_7 h a)) : ∀ (n : Nat) (h : HS) (x1 : Int32) (x2 : Int32) (x3 : Int32), pk (f_X9_laysFlock_67 k7 n h x1 x2 x3) (fun a => Fr S_X9_laysFlock_7 h a) := by
  intro n
  induction n with
  | zero => intro h x1 x2 x3; exact pk_none
  | succ n ih =>
    intro h x1 x2 x3
    rw [f_X9_laysFlock_67_s]
    refine pk_if (fun _ => ?_) (fun _ => ?_)
    · exact pk_mono (w_f_X9_laysFlock_188 k7 hk_k7 h x1 x2) (fun _ k => Fr_trans (Fr_refl _ h) k)
    · refine pk_chk (fun _ => ?_)
      refine pk_ob2 (w_f_X9_marketTells h 0 x2 x1 (x3 - x3 / 3 * 3) (x3 / 3) (((eA h 0 0) 121) + ((eA h 0 0) (((10 + (3 * (x3 / 3)))).toNatClampNeg)))) (fun r_11 h_11 k_1 => ?_)
      replace k_1 := Fr_trans (Fr_refl _ h) (Fr_mono fs_X9_marketTells__X9_laysFlock_7 k_1)
      refine pk_chk (fun _ => ?_)
      refine pk_ob2 (w_f_X9_marketTells (sA h_11 0 43 (upd (eA h_11 0 43) ((((12 * x2) + x3)).toNatClampNeg) r_11)) 1 x2 x1 (x3 - x3 / 3 * 3) (x3 / 3) (((eA h 0 0) 121) + ((eA h 0 0) (((10 + (3 * (x3 / 3)))).toNatClampNeg)))) (fun r_13 h_13 k_2 => ?_)
      replace k_2 := Fr_trans (Fr_sA fm_X9_laysFlock_7_1_0_43 k_1) (Fr_mono fs_X9_marketTells__X9_laysFlock_7 k_2)
      refine pk_chk (fun _ => ?_)
      refine pk_ob2 (w_f_X9_ofGoose (sA h_13 0 44 (upd (eA h_13 0 44) ((((12 * x2) + x3)).toNatClampNeg) r_13)) x2 1) (fun r_15 h_15 k_3 => ?_)
      replace k_3 := Fr_trans (Fr_sA fm_X9_laysFlock_7_1_0_44 k_2) (Fr_mono fs_X9_ofGoose__X9_laysFlock_7 k_3)
      refine pk_ob2 (w_f_X9_isTrueBy h_15 x2 x1 (x3 - x3 / 3 * 3) r_15) (fun r_16 h_16 k_4 => ?_)
      replace k_4 := Fr_trans k_3 (Fr_mono fs_X9_isTrueBy__X9_laysFlock_7 k_4)
      refine pk_chk (fun _ => ?_)
      exact pk_mono (ih (sA h_16 0 45 (upd (eA h_16 0 45) ((((12 * x2) + x3)).toNatClampNeg) (vp_nar .boolean r_16))) x1 x2 (x3 + 1)) (fun _ k => Fr_trans (Fr_sA fm_X9_laysFlock_7_1_0_45 k_4) k)
theorem fm_X9_laysFlock_7_0_0_47 : (0, 0, 47) ∈ S_X9_laysFlock_7 := by decide
theorem fm_X9_laysFlock_7_1_0_46 : (1, 0, 46) ∈ S_X9_laysFlock_7 := by decide
theorem fs_X9_isHome__X9_laysFlock_7 : ∀ x ∈ S_X9_isHome, x ∈ S_X9_laysFlock_7 := by decide
theorem w_f_X9_laysFlock_7  : ∀ (n : Nat) (h : HS) (x1 : Int32) (x2 : Int32), pk (f_X9_laysFlock_7  n h x1 x2) (fun a => Fr S_X9_laysFlock_7 h a) := by
  intro n
  induction n with
  | zero => intro h x1 x2; exact pk_none
  | succ n ih =>
    intro h x1 x2
    rw [f_X9_laysFlock_7_s]
    refine pk_if (fun _ => ?_) (fun _ => ?_)
    · exact pk_some (Fr_refl _ h)
    · refine pk_ob2 (w_f_X9_isHome h x2) (fun r_2 h_2 k_1 => ?_)
      replace k_1 := Fr_trans (Fr_refl _ h) (Fr_mono fs_X9_isHome__X9_laysFlock_7 k_1)
      refine pk_if (fun _ => ?_) (fun _ => ?_)
      · exact pk_mono (w_f_X9_laysFlock_188 (f_X9_laysFlock_7 n) ih h_2 x1 x2) (fun _ k => Fr_trans k_1 k)
      · refine pk_ob2 (w_f_X9_ofGoose h_2 x2 8) (fun r_4 h_4 k_2 => ?_)
        replace k_2 := Fr_trans k_1 (Fr_mono fs_X9_ofGoose__X9_laysFlock_7 k_2)
        refine pk_if (fun _ => ?_) (fun _ => ?_)
        · refine pk_ob2 (w_f_X9_ofGoose h_4 x2 2) (fun r_6 h_6 k_3 => ?_)
          replace k_3 := Fr_trans k_2 (Fr_mono fs_X9_ofGoose__X9_laysFlock_7 k_3)
          refine pk_if (fun _ => ?_) (fun _ => ?_)
          · refine pk_chk (fun _ => ?_)
            exact pk_mono (w_f_X9_laysFlock_67 (f_X9_laysFlock_7 n) ih 8589934592 (sI (sA h_6 0 46 (upd (eA h_6 0 46) (((eI h_6 0 47)).toNatClampNeg) x2)) 0 47 ((eI h_6 0 47) + 1)) x1 x2 0) (fun _ k => Fr_trans (Fr_sI fm_X9_laysFlock_7_0_0_47 (Fr_sA fm_X9_laysFlock_7_1_0_46 k_3)) k)
          · exact pk_mono (w_f_X9_laysFlock_188 (f_X9_laysFlock_7 n) ih h_6 x1 x2) (fun _ k => Fr_trans k_3 k)
        · exact pk_mono (w_f_X9_laysFlock_188 (f_X9_laysFlock_7 n) ih h_4 x1 x2) (fun _ k => Fr_trans k_2 k)
def S_X9_laysFlock : CL := [(0, 0, 47), (1, 0, 39), (1, 0, 43), (1, 0, 44), (1, 0, 45), (1, 0, 46), (3, 0, 40)]
theorem fm_X9_laysFlock_0_0_47 : (0, 0, 47) ∈ S_X9_laysFlock := by decide
theorem fs_X9_laysFlock_7__X9_laysFlock : ∀ x ∈ S_X9_laysFlock_7, x ∈ S_X9_laysFlock := by decide
theorem w_f_X9_laysFlock (h : HS) (p1 : Int32) : pk (f_X9_laysFlock h p1) (fun a => Fr S_X9_laysFlock h a) := by
  unfold f_X9_laysFlock
  exact pk_mono (w_f_X9_laysFlock_7 8589934592 (sI h 0 47 0) p1 0) (fun _ k => Fr_trans (Fr_sI fm_X9_laysFlock_0_0_47 (Fr_refl _ h)) (Fr_mono fs_X9_laysFlock_7__X9_laysFlock k))
def S_X9_asksPlan_128 : CL := []
theorem w_f_X9_asksPlan_128 (h : HS) : pk (f_X9_asksPlan_128 h) (fun a => Fr S_X9_asksPlan_128 h a) := by
  unfold f_X9_asksPlan_128
  exact pk_some (Fr_refl _ h)
def S_X9_asksPlan_138 : CL := [(1, 0, 50), (1, 0, 51)]
theorem fm_X9_asksPlan_138_1_0_51 : (1, 0, 51) ∈ S_X9_asksPlan_138 := by decide
theorem fm_X9_asksPlan_138_1_0_50 : (1, 0, 50) ∈ S_X9_asksPlan_138 := by decide
theorem w_f_X9_asksPlan_138  : ∀ (n : Nat) (h : HS) (x1 : Int32) (x7 : Int32), pk (f_X9_asksPlan_138  n h x1 x7) (fun a => Fr S_X9_asksPlan_138 h a) := by
  intro n
  induction n with
  | zero => intro h x1 x7; exact pk_none
  | succ n ih =>
    intro h x1 x7
    rw [f_X9_asksPlan_138_s]
    refine pk_if (fun _ => ?_) (fun _ => ?_)
    · exact pk_some (Fr_refl _ h)
    · refine pk_chk (fun _ => ?_)
      refine pk_chk (fun _ => ?_)
      refine pk_chk (fun _ => ?_)
      refine pk_chk (fun _ => ?_)
      exact pk_mono (ih (sA (sA h 0 50 (upd (eA h 0 50) ((x7).toNatClampNeg) ((eA h 0 48) ((x7).toNatClampNeg)))) 0 51 (upd (eA h 0 51) ((x7).toNatClampNeg) ((eA h 0 49) ((x7).toNatClampNeg)))) x1 (x7 + 1)) (fun _ k => Fr_trans (Fr_sA fm_X9_asksPlan_138_1_0_51 (Fr_sA fm_X9_asksPlan_138_1_0_50 (Fr_refl _ h))) k)
def S_X9_asksPlan_129 : CL := [(1, 0, 50), (1, 0, 51), (2, 0, 52)]
theorem fm_X9_asksPlan_129_2_0_52 : (2, 0, 52) ∈ S_X9_asksPlan_129 := by decide
theorem fs_X9_asksPlan_138__X9_asksPlan_129 : ∀ x ∈ S_X9_asksPlan_138, x ∈ S_X9_asksPlan_129 := by decide
theorem w_f_X9_asksPlan_129 (h : HS) (x1 : Int32) (x5 : Int64) : pk (f_X9_asksPlan_129 h x1 x5) (fun a => Fr S_X9_asksPlan_129 h a) := by
  unfold f_X9_asksPlan_129
  exact pk_mono (w_f_X9_asksPlan_138 8589934592 (sL h 0 52 x5) x1 0) (fun _ k => Fr_trans (Fr_sL fm_X9_asksPlan_129_2_0_52 (Fr_refl _ h)) (Fr_mono fs_X9_asksPlan_138__X9_asksPlan_129 k))
def S_X9_asksPlan_11 : CL := [(1, 0, 50), (1, 0, 51), (2, 0, 52), (3, 0, 41), (3, 0, 42)]
theorem fs_X9_manyOf__X9_asksPlan_11 : ∀ x ∈ S_X9_manyOf, x ∈ S_X9_asksPlan_11 := by decide
theorem fs_X9_asksPlan_128__X9_asksPlan_11 : ∀ x ∈ S_X9_asksPlan_128, x ∈ S_X9_asksPlan_11 := by decide
theorem fs_X9_asksPlan_129__X9_asksPlan_11 : ∀ x ∈ S_X9_asksPlan_129, x ∈ S_X9_asksPlan_11 := by decide
theorem fs_X9_comesMany__X9_asksPlan_11 : ∀ x ∈ S_X9_comesMany, x ∈ S_X9_asksPlan_11 := by decide
theorem w_f_X9_asksPlan_11  : ∀ (n : Nat) (h : HS) (x1 : Int32) (x2 : Int32) (x3 : Int64) (x5 : Int32), pk (f_X9_asksPlan_11  n h x1 x2 x3 x5) (fun a => Fr S_X9_asksPlan_11 h a) := by
  intro n
  induction n with
  | zero => intro h x1 x2 x3 x5; exact pk_none
  | succ n ih =>
    intro h x1 x2 x3 x5
    rw [f_X9_asksPlan_11_s]
    refine pk_if (fun _ => ?_) (fun _ => ?_)
    · refine pk_ob2 (w_f_X9_manyOf h 1) (fun r_3 h_3 k_1 => ?_)
      replace k_1 := Fr_trans (Fr_refl _ h) (Fr_mono fs_X9_manyOf__X9_asksPlan_11 k_1)
      refine pk_ob2 (w_f_X9_manyOf h_3 0) (fun r_4 h_4 k_2 => ?_)
      replace k_2 := Fr_trans k_1 (Fr_mono fs_X9_manyOf__X9_asksPlan_11 k_2)
      refine pk_if (fun _ => ?_) (fun _ => ?_)
      · exact pk_mono (w_f_X9_asksPlan_128 h_4) (fun _ k => Fr_trans k_2 (Fr_mono fs_X9_asksPlan_128__X9_asksPlan_11 k))
      · refine pk_if (fun _ => ?_) (fun _ => ?_)
        · exact pk_mono (w_f_X9_asksPlan_129 h_4 x1 r_3) (fun _ k => Fr_trans k_2 (Fr_mono fs_X9_asksPlan_129__X9_asksPlan_11 k))
        · refine pk_if (fun _ => ?_) (fun _ => ?_)
          · exact pk_mono (w_f_X9_asksPlan_129 h_4 x1 r_3) (fun _ k => Fr_trans k_2 (Fr_mono fs_X9_asksPlan_129__X9_asksPlan_11 k))
          · exact pk_mono (w_f_X9_asksPlan_128 h_4) (fun _ k => Fr_trans k_2 (Fr_mono fs_X9_asksPlan_128__X9_asksPlan_11 k))
    · refine pk_chk (fun _ => ?_)
      refine pk_chk (fun _ => ?_)
      refine pk_chk (fun _ => ?_)
      refine pk_chk (fun _ => ?_)
      refine pk_chk (fun _ => ?_)
      refine pk_chk (fun _ => ?_)
      refine pk_ob1 (w_f_X9_comesMany h ((eA h 0 43) ((((12 * ((eA h 0 48) ((x5).toNatClampNeg))) + ((eA h 0 49) ((x5).toNatClampNeg)))).toNatClampNeg)) ((eA h 0 44) ((((12 * ((eA h 0 48) ((x5).toNatClampNeg))) + ((eA h 0 49) ((x5).toNatClampNeg)))).toNatClampNeg)) (((eA h 0 49) ((x5).toNatClampNeg)) - ((eA h 0 49) ((x5).toNatClampNeg)) / 3 * 3) ((eA h 0 45) ((((12 * ((eA h 0 48) ((x5).toNatClampNeg))) + ((eA h 0 49) ((x5).toNatClampNeg)))).toNatClampNeg))) (fun h_14 k_3 => ?_)
      replace k_3 := Fr_trans (Fr_refl _ h) (Fr_mono fs_X9_comesMany__X9_asksPlan_11 k_3)
      exact pk_mono (ih h_14 x1 x2 (x3 * 100) (x5 + 1)) (fun _ k => Fr_trans k_3 k)
def S_X9_asksPlan : CL := [(1, 0, 50), (1, 0, 51), (2, 0, 52), (3, 0, 41), (3, 0, 42)]
theorem fs_X9_startsMany__X9_asksPlan : ∀ x ∈ S_X9_startsMany, x ∈ S_X9_asksPlan := by decide
theorem fs_X9_asksPlan_11__X9_asksPlan : ∀ x ∈ S_X9_asksPlan_11, x ∈ S_X9_asksPlan := by decide
theorem w_f_X9_asksPlan (h : HS) (p1 : Int32) (p2 : Int32) : pk (f_X9_asksPlan h p1 p2) (fun a => Fr S_X9_asksPlan h a) := by
  unfold f_X9_asksPlan
  refine pk_ob1 (w_f_X9_startsMany h 0 0) (fun h_1 k_1 => ?_)
  replace k_1 := Fr_trans (Fr_refl _ h) (Fr_mono fs_X9_startsMany__X9_asksPlan k_1)
  exact pk_mono (w_f_X9_asksPlan_11 8589934592 h_1 p1 p2 1 0) (fun _ k => Fr_trans k_1 (Fr_mono fs_X9_asksPlan_11__X9_asksPlan k))
def S_X9_triesDoings_31 : CL := [(1, 0, 49), (1, 0, 50), (1, 0, 51), (2, 0, 52), (3, 0, 41), (3, 0, 42)]
theorem fm_X9_triesDoings_31_1_0_49 : (1, 0, 49) ∈ S_X9_triesDoings_31 := by decide
theorem fs_X9_asksPlan__X9_triesDoings_31 : ∀ x ∈ S_X9_asksPlan, x ∈ S_X9_triesDoings_31 := by decide
theorem w_f_X9_triesDoings_46 (k31 : HS → Int32 → Int32 → Int32 → Int32 → Option HS) (hk_k31 : ∀ (h : HS) (x0 : Int32) (x1 : Int32) (x2 : Int32) (x3 : Int32), pk (k31 h x0 x1 x2 x3) (fun a => Fr S_X9_triesDoings_31 h a)) : ∀ (n : Nat) (h : HS) (x1 : Int32) (x2 : Int32) (x3 : Int32) (x4 : Int32) (x5 : Int32) (x6 : Int32), pk (f_X9_triesDoings_46 k31 n h x1 x2 x3 x4 x5 x6) (fun a => Fr S_X9_triesDoings_31 h a) := by
  intro n
  induction n with
  | zero => intro h x1 x2 x3 x4 x5 x6; exact pk_none
  | succ n ih =>
    intro h x1 x2 x3 x4 x5 x6
    rw [f_X9_triesDoings_46_s]
    refine pk_if (fun _ => ?_) (fun _ => ?_)
    · refine pk_ob1 (w_f_X9_asksPlan h x1 x2) (fun h_4 k_1 => ?_)
      replace k_1 := Fr_trans (Fr_refl _ h) (Fr_mono fs_X9_asksPlan__X9_triesDoings_31 k_1)
      exact pk_mono (hk_k31 h_4 x1 x2 x3 (x4 + 1)) (fun _ k => Fr_trans k_1 k)
    · refine pk_chk (fun _ => ?_)
      refine pk_chk (fun _ => ?_)
      refine pk_chk (fun _ => ?_)
      exact pk_mono (ih (sA h 0 49 (upd (eA h 0 49) ((x6).toNatClampNeg) (x5 - x5 / (3 * ((eA h 0 0) 0)) * (3 * ((eA h 0 0) 0))))) x1 x2 x3 x4 (x5 / (3 * ((eA h 0 0) 0))) (x6 + (-1))) (fun _ k => Fr_trans (Fr_sA fm_X9_triesDoings_31_1_0_49 (Fr_refl _ h)) k)
theorem w_f_X9_triesDoings_31  : ∀ (n : Nat) (h : HS) (x1 : Int32) (x2 : Int32) (x3 : Int32) (x4 : Int32), pk (f_X9_triesDoings_31  n h x1 x2 x3 x4) (fun a => Fr S_X9_triesDoings_31 h a) := by
  intro n
  induction n with
  | zero => intro h x1 x2 x3 x4; exact pk_none
  | succ n ih =>
    intro h x1 x2 x3 x4
    rw [f_X9_triesDoings_31_s]
    refine pk_if (fun _ => ?_) (fun _ => ?_)
    · exact pk_some (Fr_refl _ h)
    · exact pk_mono (w_f_X9_triesDoings_46 (f_X9_triesDoings_31 n) ih 8589934592 h x1 x2 x3 x4 x4 (x1 - 1)) (fun _ k => Fr_trans (Fr_refl _ h) k)
def S_X9_triesDoings_5 : CL := [(1, 0, 49), (1, 0, 50), (1, 0, 51), (2, 0, 52), (3, 0, 41), (3, 0, 42)]
theorem fs_X9_triesDoings_31__X9_triesDoings_5 : ∀ x ∈ S_X9_triesDoings_31, x ∈ S_X9_triesDoings_5 := by decide
theorem w_f_X9_triesDoings_5  : ∀ (n : Nat) (h : HS) (x1 : Int32) (x2 : Int32) (x3 : Int32) (x4 : Int32), pk (f_X9_triesDoings_5  n h x1 x2 x3 x4) (fun a => Fr S_X9_triesDoings_5 h a) := by
  intro n
  induction n with
  | zero => intro h x1 x2 x3 x4; exact pk_none
  | succ n ih =>
    intro h x1 x2 x3 x4
    rw [f_X9_triesDoings_5_s]
    refine pk_if (fun _ => ?_) (fun _ => ?_)
    · exact pk_mono (w_f_X9_triesDoings_31 8589934592 h x1 x2 x3 0) (fun _ k => Fr_trans (Fr_refl _ h) (Fr_mono fs_X9_triesDoings_31__X9_triesDoings_5 k))
    · exact pk_mono (ih h x1 x2 ((x3 * 3) * ((eA h 0 0) 0)) (x4 + 1)) (fun _ k => Fr_trans (Fr_refl _ h) k)
def S_X9_triesDoings : CL := [(1, 0, 49), (1, 0, 50), (1, 0, 51), (2, 0, 52), (3, 0, 41), (3, 0, 42)]
theorem fs_X9_triesDoings_5__X9_triesDoings : ∀ x ∈ S_X9_triesDoings_5, x ∈ S_X9_triesDoings := by decide
theorem w_f_X9_triesDoings (h : HS) (p1 : Int32) (p2 : Int32) : pk (f_X9_triesDoings h p1 p2) (fun a => Fr S_X9_triesDoings h a) := by
  unfold f_X9_triesDoings
  exact pk_mono (w_f_X9_triesDoings_5 8589934592 h p1 p2 1 0) (fun _ k => Fr_trans (Fr_refl _ h) (Fr_mono fs_X9_triesDoings_5__X9_triesDoings k))
def S_X9_plansOf_167 : CL := []
theorem w_f_X9_plansOf_167 (h : HS) (y0 : Int32) : pk (f_X9_plansOf_167 h y0) (fun a => Fr S_X9_plansOf_167 h a.2) := by
  unfold f_X9_plansOf_167
  refine pk_chk (fun _ => ?_)
  exact pk_some (Fr_refl _ h)
def S_X9_plansOf_9 : CL := [(1, 0, 48), (1, 0, 49), (1, 0, 50), (1, 0, 51), (2, 0, 52), (3, 0, 41), (3, 0, 42)]
theorem w_f_X9_plansOf_145 (k9 : HS → Int32 → Int32 → Int32 → Option (Int32 × HS)) (hk_k9 : ∀ (h : HS) (x0 : Int32) (x1 : Int32) (x2 : Int32), pk (k9 h x0 x1 x2) (fun a => Fr S_X9_plansOf_9 h a.2)) (h : HS) (x1 : Int32) (x2 : Int32) (x3 : Int32) : pk (f_X9_plansOf_145 k9 h x1 x2 x3) (fun a => Fr S_X9_plansOf_9 h a.2) := by
  unfold f_X9_plansOf_145
  exact pk_mono (hk_k9 h x1 x2 (x3 + 1)) (fun _ k => Fr_trans (Fr_refl _ h) k)
theorem w_f_X9_plansOf_122 (k9 : HS → Int32 → Int32 → Int32 → Option (Int32 × HS)) (hk_k9 : ∀ (h : HS) (x0 : Int32) (x1 : Int32) (x2 : Int32), pk (k9 h x0 x1 x2) (fun a => Fr S_X9_plansOf_9 h a.2)) (k25 : HS → Int32 → Int32 → Int32 → Int32 → Int32 → Int32 → Option (Int32 × HS)) (hk_k25 : ∀ (h : HS) (x0 : Int32) (x1 : Int32) (x2 : Int32) (x3 : Int32) (x4 : Int32) (x5 : Int32), pk (k25 h x0 x1 x2 x3 x4 x5) (fun a => Fr S_X9_plansOf_9 h a.2)) (h : HS) (x1 : Int32) (x2 : Int32) (x3 : Int32) (x4 : Int32) (x5 : Int32) (x6 : Int32) : pk (f_X9_plansOf_122 k9 k25 h x1 x2 x3 x4 x5 x6) (fun a => Fr S_X9_plansOf_9 h a.2) := by
  unfold f_X9_plansOf_122
  exact pk_mono (hk_k25 h x1 x2 x3 x4 x5 (x6 + 1)) (fun _ k => Fr_trans (Fr_refl _ h) k)
theorem w_f_X9_plansOf_119 (k9 : HS → Int32 → Int32 → Int32 → Option (Int32 × HS)) (hk_k9 : ∀ (h : HS) (x0 : Int32) (x1 : Int32) (x2 : Int32), pk (k9 h x0 x1 x2) (fun a => Fr S_X9_plansOf_9 h a.2)) (k25 : HS → Int32 → Int32 → Int32 → Int32 → Int32 → Int32 → Option (Int32 × HS)) (hk_k25 : ∀ (h : HS) (x0 : Int32) (x1 : Int32) (x2 : Int32) (x3 : Int32) (x4 : Int32) (x5 : Int32), pk (k25 h x0 x1 x2 x3 x4 x5) (fun a => Fr S_X9_plansOf_9 h a.2)) (h : HS) (x1 : Int32) (x2 : Int32) (x3 : Int32) (x4 : Int32) (x5 : Int32) (x6 : Int32) : pk (f_X9_plansOf_119 k9 k25 h x1 x2 x3 x4 x5 x6) (fun a => Fr S_X9_plansOf_9 h a.2) := by
  unfold f_X9_plansOf_119
  exact pk_mono (w_f_X9_plansOf_122 k9 hk_k9 k25 hk_k25 h x1 x2 x3 (x4 + 1) x5 x6) (fun _ k => Fr_trans (Fr_refl _ h) k)
theorem fm_X9_plansOf_9_1_0_48 : (1, 0, 48) ∈ S_X9_plansOf_9 := by decide
theorem w_f_X9_plansOf_102 (k9 : HS → Int32 → Int32 → Int32 → Option (Int32 × HS)) (hk_k9 : ∀ (h : HS) (x0 : Int32) (x1 : Int32) (x2 : Int32), pk (k9 h x0 x1 x2) (fun a => Fr S_X9_plansOf_9 h a.2)) (k25 : HS → Int32 → Int32 → Int32 → Int32 → Int32 → Int32 → Option (Int32 × HS)) (hk_k25 : ∀ (h : HS) (x0 : Int32) (x1 : Int32) (x2 : Int32) (x3 : Int32) (x4 : Int32) (x5 : Int32), pk (k25 h x0 x1 x2 x3 x4 x5) (fun a => Fr S_X9_plansOf_9 h a.2)) (h : HS) (x1 : Int32) (x2 : Int32) (x3 : Int32) (x4 : Int32) (x6 : Int32) (y0 : Int32) : pk (f_X9_plansOf_102 k9 k25 h x1 x2 x3 x4 x6 y0) (fun a => Fr S_X9_plansOf_9 h a.2) := by
  unfold f_X9_plansOf_102
  refine pk_if (fun _ => ?_) (fun _ => ?_)
  · exact pk_mono (w_f_X9_plansOf_119 k9 hk_k9 k25 hk_k25 h x1 x2 x3 x4 y0 x6) (fun _ k => Fr_trans (Fr_refl _ h) k)
  · refine pk_chk (fun _ => ?_)
    exact pk_mono (w_f_X9_plansOf_119 k9 hk_k9 k25 hk_k25 (sA h 0 48 (upd (eA h 0 48) ((x4).toNatClampNeg) x6)) x1 x2 x3 x4 y0 x6) (fun _ k => Fr_trans (Fr_sA fm_X9_plansOf_9_1_0_48 (Fr_refl _ h)) k)
theorem w_f_X9_plansOf_101 (k9 : HS → Int32 → Int32 → Int32 → Option (Int32 × HS)) (hk_k9 : ∀ (h : HS) (x0 : Int32) (x1 : Int32) (x2 : Int32), pk (k9 h x0 x1 x2) (fun a => Fr S_X9_plansOf_9 h a.2)) (k25 : HS → Int32 → Int32 → Int32 → Int32 → Int32 → Int32 → Option (Int32 × HS)) (hk_k25 : ∀ (h : HS) (x0 : Int32) (x1 : Int32) (x2 : Int32) (x3 : Int32) (x4 : Int32) (x5 : Int32), pk (k25 h x0 x1 x2 x3 x4 x5) (fun a => Fr S_X9_plansOf_9 h a.2)) (h : HS) (x1 : Int32) (x2 : Int32) (x3 : Int32) (x4 : Int32) (x6 : Int32) : pk (f_X9_plansOf_101 k9 k25 h x1 x2 x3 x4 x6) (fun a => Fr S_X9_plansOf_9 h a.2) := by
  unfold f_X9_plansOf_101
  exact pk_mono (w_f_X9_plansOf_102 k9 hk_k9 k25 hk_k25 h x1 x2 x3 x4 x6 0) (fun _ k => Fr_trans (Fr_refl _ h) k)
theorem w_f_X9_plansOf_79 (k9 : HS → Int32 → Int32 → Int32 → Option (Int32 × HS)) (hk_k9 : ∀ (h : HS) (x0 : Int32) (x1 : Int32) (x2 : Int32), pk (k9 h x0 x1 x2) (fun a => Fr S_X9_plansOf_9 h a.2)) (k25 : HS → Int32 → Int32 → Int32 → Int32 → Int32 → Int32 → Option (Int32 × HS)) (hk_k25 : ∀ (h : HS) (x0 : Int32) (x1 : Int32) (x2 : Int32) (x3 : Int32) (x4 : Int32) (x5 : Int32), pk (k25 h x0 x1 x2 x3 x4 x5) (fun a => Fr S_X9_plansOf_9 h a.2)) (k48 : HS → Int32 → Int32 → Int32 → Int32 → Int32 → Int32 → Int32 → Int32 → Option (Int32 × HS)) (hk_k48 : ∀ (h : HS) (x0 : Int32) (x1 : Int32) (x2 : Int32) (x3 : Int32) (x4 : Int32) (x5 : Int32) (x6 : Int32) (x7 : Int32), pk (k48 h x0 x1 x2 x3 x4 x5 x6 x7) (fun a => Fr S_X9_plansOf_9 h a.2)) (h : HS) (x1 : Int32) (x2 : Int32) (x3 : Int32) (x4 : Int32) (x5 : Int32) (x6 : Int32) (x8 : Int32) (y0 : Int32) : pk (f_X9_plansOf_79 k9 k25 k48 h x1 x2 x3 x4 x5 x6 x8 y0) (fun a => Fr S_X9_plansOf_9 h a.2) := by
  unfold f_X9_plansOf_79
  exact pk_mono (hk_k48 h x1 x2 x3 x4 x5 x6 y0 (x8 + 1)) (fun _ k => Fr_trans (Fr_refl _ h) k)
theorem w_f_X9_plansOf_74 (k9 : HS → Int32 → Int32 → Int32 → Option (Int32 × HS)) (hk_k9 : ∀ (h : HS) (x0 : Int32) (x1 : Int32) (x2 : Int32), pk (k9 h x0 x1 x2) (fun a => Fr S_X9_plansOf_9 h a.2)) (k25 : HS → Int32 → Int32 → Int32 → Int32 → Int32 → Int32 → Option (Int32 × HS)) (hk_k25 : ∀ (h : HS) (x0 : Int32) (x1 : Int32) (x2 : Int32) (x3 : Int32) (x4 : Int32) (x5 : Int32), pk (k25 h x0 x1 x2 x3 x4 x5) (fun a => Fr S_X9_plansOf_9 h a.2)) (k48 : HS → Int32 → Int32 → Int32 → Int32 → Int32 → Int32 → Int32 → Int32 → Option (Int32 × HS)) (hk_k48 : ∀ (h : HS) (x0 : Int32) (x1 : Int32) (x2 : Int32) (x3 : Int32) (x4 : Int32) (x5 : Int32) (x6 : Int32) (x7 : Int32), pk (k48 h x0 x1 x2 x3 x4 x5 x6 x7) (fun a => Fr S_X9_plansOf_9 h a.2)) (h : HS) (x1 : Int32) (x2 : Int32) (x3 : Int32) (x4 : Int32) (x5 : Int32) (x6 : Int32) (x8 : Int32) : pk (f_X9_plansOf_74 k9 k25 k48 h x1 x2 x3 x4 x5 x6 x8) (fun a => Fr S_X9_plansOf_9 h a.2) := by
  unfold f_X9_plansOf_74
  exact pk_mono (w_f_X9_plansOf_79 k9 hk_k9 k25 hk_k25 k48 hk_k48 h x1 x2 x3 x4 x5 x6 x8 1) (fun _ k => Fr_trans (Fr_refl _ h) k)
theorem w_f_X9_plansOf_48 (k9 : HS → Int32 → Int32 → Int32 → Option (Int32 × HS)) (hk_k9 : ∀ (h : HS) (x0 : Int32) (x1 : Int32) (x2 : Int32), pk (k9 h x0 x1 x2) (fun a => Fr S_X9_plansOf_9 h a.2)) (k25 : HS → Int32 → Int32 → Int32 → Int32 → Int32 → Int32 → Option (Int32 × HS)) (hk_k25 : ∀ (h : HS) (x0 : Int32) (x1 : Int32) (x2 : Int32) (x3 : Int32) (x4 : Int32) (x5 : Int32), pk (k25 h x0 x1 x2 x3 x4 x5) (fun a => Fr S_X9_plansOf_9 h a.2)) : ∀ (n : Nat) (h : HS) (x1 : Int32) (x2 : Int32) (x3 : Int32) (x4 : Int32) (x5 : Int32) (x6 : Int32) (x7 : Int32) (x8 : Int32), pk (f_X9_plansOf_48 k9 k25 n h x1 x2 x3 x4 x5 x6 x7 x8) (fun a => Fr S_X9_plansOf_9 h a.2) := by
  intro n
  induction n with
  | zero => intro h x1 x2 x3 x4 x5 x6 x7 x8; exact pk_none
  | succ n ih =>
    intro h x1 x2 x3 x4 x5 x6 x7 x8
    rw [f_X9_plansOf_48_s]
    refine pk_if (fun _ => ?_) (fun _ => ?_)
    · refine pk_if (fun _ => ?_) (fun _ => ?_)
      · exact pk_mono (w_f_X9_plansOf_101 k9 hk_k9 k25 hk_k25 h x1 x2 x3 x4 x6) (fun _ k => Fr_trans (Fr_refl _ h) k)
      · refine pk_if (fun _ => ?_) (fun _ => ?_)
        · exact pk_mono (w_f_X9_plansOf_101 k9 hk_k9 k25 hk_k25 h x1 x2 x3 x4 x6) (fun _ k => Fr_trans (Fr_refl _ h) k)
        · exact pk_mono (w_f_X9_plansOf_102 k9 hk_k9 k25 hk_k25 h x1 x2 x3 x4 x6 1) (fun _ k => Fr_trans (Fr_refl _ h) k)
    · refine pk_if (fun _ => ?_) (fun _ => ?_)
      · refine pk_chk (fun _ => ?_)
        refine pk_if (fun _ => ?_) (fun _ => ?_)
        · exact pk_mono (w_f_X9_plansOf_74 k9 hk_k9 k25 hk_k25 (f_X9_plansOf_48 k9 k25 n) ih h x1 x2 x3 x4 x5 x6 x8) (fun _ k => Fr_trans (Fr_refl _ h) k)
        · exact pk_mono (w_f_X9_plansOf_79 k9 hk_k9 k25 hk_k25 (f_X9_plansOf_48 k9 k25 n) ih h x1 x2 x3 x4 x5 x6 x8 0) (fun _ k => Fr_trans (Fr_refl _ h) k)
      · exact pk_mono (w_f_X9_plansOf_74 k9 hk_k9 k25 hk_k25 (f_X9_plansOf_48 k9 k25 n) ih h x1 x2 x3 x4 x5 x6 x8) (fun _ k => Fr_trans (Fr_refl _ h) k)
theorem fs_X9_triesDoings__X9_plansOf_9 : ∀ x ∈ S_X9_triesDoings, x ∈ S_X9_plansOf_9 := by decide
theorem w_f_X9_plansOf_25 (k9 : HS → Int32 → Int32 → Int32 → Option (Int32 × HS)) (hk_k9 : ∀ (h : HS) (x0 : Int32) (x1 : Int32) (x2 : Int32), pk (k9 h x0 x1 x2) (fun a => Fr S_X9_plansOf_9 h a.2)) : ∀ (n : Nat) (h : HS) (x1 : Int32) (x2 : Int32) (x3 : Int32) (x4 : Int32) (x5 : Int32) (x6 : Int32), pk (f_X9_plansOf_25 k9 n h x1 x2 x3 x4 x5 x6) (fun a => Fr S_X9_plansOf_9 h a.2) := by
  intro n
  induction n with
  | zero => intro h x1 x2 x3 x4 x5 x6; exact pk_none
  | succ n ih =>
    intro h x1 x2 x3 x4 x5 x6
    rw [f_X9_plansOf_25_s]
    refine pk_if (fun _ => ?_) (fun _ => ?_)
    · refine pk_if (fun _ => ?_) (fun _ => ?_)
      · exact pk_mono (w_f_X9_plansOf_145 k9 hk_k9 h x1 x2 x3) (fun _ k => Fr_trans (Fr_refl _ h) k)
      · refine pk_if (fun _ => ?_) (fun _ => ?_)
        · refine pk_ob1 (w_f_X9_triesDoings h x1 x2) (fun h_7 k_1 => ?_)
          replace k_1 := Fr_trans (Fr_refl _ h) (Fr_mono fs_X9_triesDoings__X9_plansOf_9 k_1)
          exact pk_mono (w_f_X9_plansOf_145 k9 hk_k9 h_7 x1 x2 x3) (fun _ k => Fr_trans k_1 k)
        · exact pk_mono (w_f_X9_plansOf_145 k9 hk_k9 h x1 x2 x3) (fun _ k => Fr_trans (Fr_refl _ h) k)
    · refine pk_if (fun _ => ?_) (fun _ => ?_)
      · exact pk_mono (w_f_X9_plansOf_48 k9 hk_k9 (f_X9_plansOf_25 k9 n) ih 8589934592 h x1 x2 x3 x4 x5 x6 0 0) (fun _ k => Fr_trans (Fr_refl _ h) k)
      · exact pk_mono (w_f_X9_plansOf_122 k9 hk_k9 (f_X9_plansOf_25 k9 n) ih h x1 x2 x3 x4 x5 x6) (fun _ k => Fr_trans (Fr_refl _ h) k)
theorem fs_X9_plansOf_167__X9_plansOf_9 : ∀ x ∈ S_X9_plansOf_167, x ∈ S_X9_plansOf_9 := by decide
theorem w_f_X9_plansOf_9  : ∀ (n : Nat) (h : HS) (x1 : Int32) (x2 : Int32) (x3 : Int32), pk (f_X9_plansOf_9  n h x1 x2 x3) (fun a => Fr S_X9_plansOf_9 h a.2) := by
  intro n
  induction n with
  | zero => intro h x1 x2 x3; exact pk_none
  | succ n ih =>
    intro h x1 x2 x3
    rw [f_X9_plansOf_9_s]
    refine pk_if (fun _ => ?_) (fun _ => ?_)
    · refine pk_if (fun _ => ?_) (fun _ => ?_)
      · exact pk_mono (w_f_X9_plansOf_167 h 0) (fun _ k => Fr_trans (Fr_refl _ h) (Fr_mono fs_X9_plansOf_167__X9_plansOf_9 k))
      · exact pk_mono (w_f_X9_plansOf_167 h 1) (fun _ k => Fr_trans (Fr_refl _ h) (Fr_mono fs_X9_plansOf_167__X9_plansOf_9 k))
    · exact pk_mono (w_f_X9_plansOf_25 (f_X9_plansOf_9 n) ih 8589934592 h x1 x2 x3 0 1 0) (fun _ k => Fr_trans (Fr_refl _ h) k)
def S_X9_plansOf : CL := [(1, 0, 48), (1, 0, 49), (1, 0, 50), (1, 0, 51), (2, 0, 52), (3, 0, 41), (3, 0, 42)]
theorem fm_X9_plansOf_2_0_52 : (2, 0, 52) ∈ S_X9_plansOf := by decide
theorem fs_X9_plansOf_9__X9_plansOf : ∀ x ∈ S_X9_plansOf_9, x ∈ S_X9_plansOf := by decide
theorem w_f_X9_plansOf (h : HS) (p1 : Int32) (p2 : Int32) : pk (f_X9_plansOf h p1 p2) (fun a => Fr S_X9_plansOf h a.2) := by
  unfold f_X9_plansOf
  exact pk_mono (w_f_X9_plansOf_9 8589934592 (sL h 0 52 (-1)) p1 p2 0) (fun _ k => Fr_trans (Fr_sL fm_X9_plansOf_2_0_52 (Fr_refl _ h)) (Fr_mono fs_X9_plansOf_9__X9_plansOf k))
def S_X9_plan_30 : CL := []
theorem w_f_X9_plan_30 (h : HS) : pk (f_X9_plan_30 h) (fun a => Fr S_X9_plan_30 h a.2) := by
  unfold f_X9_plan_30
  exact pk_some (Fr_refl _ h)
def S_X9_plan_131 : CL := []
theorem w_f_X9_plan_131 (h : HS) (x5 : Int32) : pk (f_X9_plan_131 h x5) (fun a => Fr S_X9_plan_131 h a.2) := by
  unfold f_X9_plan_131
  exact pk_some (Fr_refl _ h)
def S_X9_plan_73 : CL := []
theorem w_f_X9_plan_123 (k73 : HS → Int32 → Int32 → Int32 → Int32 → Option (Int32 × HS)) (hk_k73 : ∀ (h : HS) (x0 : Int32) (x1 : Int32) (x2 : Int32) (x3 : Int32), pk (k73 h x0 x1 x2 x3) (fun a => Fr S_X9_plan_73 h a.2)) (h : HS) (x3 : Int32) (x4 : Int32) (x6 : Int32) (y0 : Int32) : pk (f_X9_plan_123 k73 h x3 x4 x6 y0) (fun a => Fr S_X9_plan_73 h a.2) := by
  unfold f_X9_plan_123
  exact pk_mono (hk_k73 h x3 x4 y0 (x6 + 1)) (fun _ k => Fr_trans (Fr_refl _ h) k)
theorem fs_X9_plan_131__X9_plan_73 : ∀ x ∈ S_X9_plan_131, x ∈ S_X9_plan_73 := by decide
theorem w_f_X9_plan_73  : ∀ (n : Nat) (h : HS) (x3 : Int32) (x4 : Int32) (x5 : Int32) (x6 : Int32), pk (f_X9_plan_73  n h x3 x4 x5 x6) (fun a => Fr S_X9_plan_73 h a.2) := by
  intro n
  induction n with
  | zero => intro h x3 x4 x5 x6; exact pk_none
  | succ n ih =>
    intro h x3 x4 x5 x6
    rw [f_X9_plan_73_s]
    refine pk_if (fun _ => ?_) (fun _ => ?_)
    · exact pk_mono (w_f_X9_plan_131 h x5) (fun _ k => Fr_trans (Fr_refl _ h) (Fr_mono fs_X9_plan_131__X9_plan_73 k))
    · refine pk_if (fun _ => ?_) (fun _ => ?_)
      · exact pk_mono (w_f_X9_plan_131 h x5) (fun _ k => Fr_trans (Fr_refl _ h) (Fr_mono fs_X9_plan_131__X9_plan_73 k))
      · refine pk_chk (fun _ => ?_)
        refine pk_if (fun _ => ?_) (fun _ => ?_)
        · refine pk_chk (fun _ => ?_)
          refine pk_chk (fun _ => ?_)
          exact pk_mono (w_f_X9_plan_123 (f_X9_plan_73 n) ih h x3 x4 x6 ((10 * (((eA h 0 51) ((x6).toNatClampNeg)) / 3)) + (((eA h 0 51) ((x6).toNatClampNeg)) - ((eA h 0 51) ((x6).toNatClampNeg)) / 3 * 3))) (fun _ k => Fr_trans (Fr_refl _ h) k)
        · exact pk_mono (w_f_X9_plan_123 (f_X9_plan_73 n) ih h x3 x4 x6 x5) (fun _ k => Fr_trans (Fr_refl _ h) k)
def S_X9_plan_68 : CL := []
theorem fs_X9_plan_73__X9_plan_68 : ∀ x ∈ S_X9_plan_73, x ∈ S_X9_plan_68 := by decide
theorem w_f_X9_plan_68 (h : HS) (x3 : Int32) (x4 : Int32) (y0 : Int32) : pk (f_X9_plan_68 h x3 x4 y0) (fun a => Fr S_X9_plan_68 h a.2) := by
  unfold f_X9_plan_68
  exact pk_mono (w_f_X9_plan_73 8589934592 h x3 x4 y0 0) (fun _ k => Fr_trans (Fr_refl _ h) (Fr_mono fs_X9_plan_73__X9_plan_68 k))
def S_X9_plan_41 : CL := [(1, 0, 48), (1, 0, 49), (1, 0, 50), (1, 0, 51), (2, 0, 52), (3, 0, 41), (3, 0, 42)]
theorem fs_X9_plansOf__X9_plan_41 : ∀ x ∈ S_X9_plansOf, x ∈ S_X9_plan_41 := by decide
theorem fs_X9_plan_68__X9_plan_41 : ∀ x ∈ S_X9_plan_68, x ∈ S_X9_plan_41 := by decide
theorem w_f_X9_plan_41  : ∀ (n : Nat) (h : HS) (x2 : Int32) (x3 : Int32) (x4 : Int32), pk (f_X9_plan_41  n h x2 x3 x4) (fun a => Fr S_X9_plan_41 h a.2) := by
  intro n
  induction n with
  | zero => intro h x2 x3 x4; exact pk_none
  | succ n ih =>
    intro h x2 x3 x4
    rw [f_X9_plan_41_s]
    refine pk_if (fun _ => ?_) (fun _ => ?_)
    · exact pk_some (Fr_refl _ h)
    · refine pk_ob2 (w_f_X9_plansOf h x4 x2) (fun r_10 h_10 k_1 => ?_)
      replace k_1 := Fr_trans (Fr_refl _ h) (Fr_mono fs_X9_plansOf__X9_plan_41 k_1)
      refine pk_if (fun _ => ?_) (fun _ => ?_)
      · exact pk_mono (ih h_10 x2 x3 (x4 + 1)) (fun _ k => Fr_trans k_1 k)
      · refine pk_if (fun _ => ?_) (fun _ => ?_)
        · exact pk_mono (w_f_X9_plan_68 h_10 x3 x4 x4) (fun _ k => Fr_trans k_1 (Fr_mono fs_X9_plan_68__X9_plan_41 k))
        · exact pk_mono (w_f_X9_plan_68 h_10 x3 x4 (-1)) (fun _ k => Fr_trans k_1 (Fr_mono fs_X9_plan_68__X9_plan_41 k))
def S_X9_plan_33 : CL := [(0, 0, 47), (1, 0, 39), (1, 0, 43), (1, 0, 44), (1, 0, 45), (1, 0, 46), (1, 0, 48), (1, 0, 49), (1, 0, 50), (1, 0, 51), (2, 0, 52), (3, 0, 40), (3, 0, 41), (3, 0, 42)]
theorem fs_X9_laysFlock__X9_plan_33 : ∀ x ∈ S_X9_laysFlock, x ∈ S_X9_plan_33 := by decide
theorem fs_X9_plan_41__X9_plan_33 : ∀ x ∈ S_X9_plan_41, x ∈ S_X9_plan_33 := by decide
theorem w_f_X9_plan_33 (h : HS) (x1 : Int32) (x2 : Int32) (x3 : Int32) : pk (f_X9_plan_33 h x1 x2 x3) (fun a => Fr S_X9_plan_33 h a.2) := by
  unfold f_X9_plan_33
  refine pk_ob1 (w_f_X9_laysFlock h x1) (fun h_8 k_1 => ?_)
  replace k_1 := Fr_trans (Fr_refl _ h) (Fr_mono fs_X9_laysFlock__X9_plan_33 k_1)
  exact pk_mono (w_f_X9_plan_41 8589934592 h_8 x2 x3 1) (fun _ k => Fr_trans k_1 (Fr_mono fs_X9_plan_41__X9_plan_33 k))
def S_X9_plan : CL := [(0, 0, 47), (1, 0, 39), (1, 0, 43), (1, 0, 44), (1, 0, 45), (1, 0, 46), (1, 0, 48), (1, 0, 49), (1, 0, 50), (1, 0, 51), (2, 0, 52), (3, 0, 40), (3, 0, 41), (3, 0, 42)]
theorem fs_X9_plan_30__X9_plan : ∀ x ∈ S_X9_plan_30, x ∈ S_X9_plan := by decide
theorem fs_X9_plan_33__X9_plan : ∀ x ∈ S_X9_plan_33, x ∈ S_X9_plan := by decide
theorem fs_X9_isGoose__X9_plan : ∀ x ∈ S_X9_isGoose, x ∈ S_X9_plan := by decide
theorem w_f_X9_plan (h : HS) (p1 : Int32) (p2 : Int32) (p3 : Int32) : pk (f_X9_plan h p1 p2 p3) (fun a => Fr S_X9_plan h a.2) := by
  unfold f_X9_plan
  refine pk_obf (fun r_1 => ?_)
  refine pk_if (fun _ => ?_) (fun _ => ?_)
  · exact pk_mono (w_f_X9_plan_30 h) (fun _ k => Fr_trans (Fr_refl _ h) (Fr_mono fs_X9_plan_30__X9_plan k))
  · refine pk_obf (fun r_3 => ?_)
    refine pk_if (fun _ => ?_) (fun _ => ?_)
    · exact pk_mono (w_f_X9_plan_30 h) (fun _ k => Fr_trans (Fr_refl _ h) (Fr_mono fs_X9_plan_30__X9_plan k))
    · refine pk_if (fun _ => ?_) (fun _ => ?_)
      · exact pk_mono (w_f_X9_plan_33 h p1 p2 p3) (fun _ k => Fr_trans (Fr_refl _ h) (Fr_mono fs_X9_plan_33__X9_plan k))
      · refine pk_ob2 (w_f_X9_isGoose h p3) (fun r_6 h_6 k_1 => ?_)
        replace k_1 := Fr_trans (Fr_refl _ h) (Fr_mono fs_X9_isGoose__X9_plan k_1)
        refine pk_if (fun _ => ?_) (fun _ => ?_)
        · exact pk_mono (w_f_X9_plan_30 h_6) (fun _ k => Fr_trans k_1 (Fr_mono fs_X9_plan_30__X9_plan k))
        · exact pk_mono (w_f_X9_plan_33 h_6 p1 p2 p3) (fun _ k => Fr_trans k_1 (Fr_mono fs_X9_plan_33__X9_plan k))
