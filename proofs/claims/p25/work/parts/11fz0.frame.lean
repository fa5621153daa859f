def S_X4_hasGoose_23 : CL := []
theorem w_f_X4_hasGoose_23 (h : HS) (y0 : Int32) : pk (f_X4_hasGoose_23 h y0) (fun a => Fr S_X4_hasGoose_23 h a.2) := by
  unfold f_X4_hasGoose_23
  refine pk_chk (fun _ => ?_)
  exact pk_some (Fr_refl _ h)
def S_X4_hasGoose_22 : CL := []
theorem fs_X4_hasGoose_23__X4_hasGoose_22 : ∀ x ∈ S_X4_hasGoose_23, x ∈ S_X4_hasGoose_22 := by decide
theorem w_f_X4_hasGoose_22 (h : HS) : pk (f_X4_hasGoose_22 h) (fun a => Fr S_X4_hasGoose_22 h a.2) := by
  unfold f_X4_hasGoose_22
  exact pk_mono (w_f_X4_hasGoose_23 h 0) (fun _ k => Fr_trans (Fr_refl _ h) (Fr_mono fs_X4_hasGoose_23__X4_hasGoose_22 k))
def S_X4_hasGoose : CL := []
theorem fs_X4_hasGoose_22__X4_hasGoose : ∀ x ∈ S_X4_hasGoose_22, x ∈ S_X4_hasGoose := by decide
theorem fs_X4_hasGoose_23__X4_hasGoose : ∀ x ∈ S_X4_hasGoose_23, x ∈ S_X4_hasGoose := by decide
theorem w_f_X4_hasGoose (h : HS) (p1 : Int32) : pk (f_X4_hasGoose h p1) (fun a => Fr S_X4_hasGoose h a.2) := by
  unfold f_X4_hasGoose
  refine pk_if (fun _ => ?_) (fun _ => ?_)
  · exact pk_mono (w_f_X4_hasGoose_22 h) (fun _ k => Fr_trans (Fr_refl _ h) (Fr_mono fs_X4_hasGoose_22__X4_hasGoose k))
  · refine pk_if (fun _ => ?_) (fun _ => ?_)
    · exact pk_mono (w_f_X4_hasGoose_22 h) (fun _ k => Fr_trans (Fr_refl _ h) (Fr_mono fs_X4_hasGoose_22__X4_hasGoose k))
    · refine pk_if (fun _ => ?_) (fun _ => ?_)
      · exact pk_mono (w_f_X4_hasGoose_22 h) (fun _ k => Fr_trans (Fr_refl _ h) (Fr_mono fs_X4_hasGoose_22__X4_hasGoose k))
      · exact pk_mono (w_f_X4_hasGoose_23 h 1) (fun _ k => Fr_trans (Fr_refl _ h) (Fr_mono fs_X4_hasGoose_23__X4_hasGoose k))
def S_X4_hasMarket_22 : CL := []
theorem w_f_X4_hasMarket_22 (h : HS) (y0 : Int32) : pk (f_X4_hasMarket_22 h y0) (fun a => Fr S_X4_hasMarket_22 h a.2) := by
  unfold f_X4_hasMarket_22
  refine pk_chk (fun _ => ?_)
  exact pk_some (Fr_refl _ h)
def S_X4_hasMarket_21 : CL := []
theorem fs_X4_hasMarket_22__X4_hasMarket_21 : ∀ x ∈ S_X4_hasMarket_22, x ∈ S_X4_hasMarket_21 := by decide
theorem w_f_X4_hasMarket_21 (h : HS) : pk (f_X4_hasMarket_21 h) (fun a => Fr S_X4_hasMarket_21 h a.2) := by
  unfold f_X4_hasMarket_21
  exact pk_mono (w_f_X4_hasMarket_22 h 0) (fun _ k => Fr_trans (Fr_refl _ h) (Fr_mono fs_X4_hasMarket_22__X4_hasMarket_21 k))
def S_X4_hasMarket : CL := []
theorem fs_X4_hasMarket_21__X4_hasMarket : ∀ x ∈ S_X4_hasMarket_21, x ∈ S_X4_hasMarket := by decide
theorem fs_X4_hasMarket_22__X4_hasMarket : ∀ x ∈ S_X4_hasMarket_22, x ∈ S_X4_hasMarket := by decide
theorem w_f_X4_hasMarket (h : HS) (p1 : Int32) : pk (f_X4_hasMarket h p1) (fun a => Fr S_X4_hasMarket h a.2) := by
  unfold f_X4_hasMarket
  refine pk_if (fun _ => ?_) (fun _ => ?_)
  · exact pk_mono (w_f_X4_hasMarket_21 h) (fun _ k => Fr_trans (Fr_refl _ h) (Fr_mono fs_X4_hasMarket_21__X4_hasMarket k))
  · refine pk_if (fun _ => ?_) (fun _ => ?_)
    · exact pk_mono (w_f_X4_hasMarket_21 h) (fun _ k => Fr_trans (Fr_refl _ h) (Fr_mono fs_X4_hasMarket_21__X4_hasMarket k))
    · refine pk_if (fun _ => ?_) (fun _ => ?_)
      · exact pk_mono (w_f_X4_hasMarket_21 h) (fun _ k => Fr_trans (Fr_refl _ h) (Fr_mono fs_X4_hasMarket_21__X4_hasMarket k))
      · exact pk_mono (w_f_X4_hasMarket_22 h 1) (fun _ k => Fr_trans (Fr_refl _ h) (Fr_mono fs_X4_hasMarket_22__X4_hasMarket k))
def S_X4_ofGoose_28 : CL := []
theorem w_f_X4_ofGoose_28 (h : HS) : pk (f_X4_ofGoose_28 h) (fun a => Fr S_X4_ofGoose_28 h a.2) := by
  unfold f_X4_ofGoose_28
  exact pk_some (Fr_refl _ h)
def S_X4_ofGoose : CL := []
theorem fs_X4_ofGoose_28__X4_ofGoose : ∀ x ∈ S_X4_ofGoose_28, x ∈ S_X4_ofGoose := by decide
theorem w_f_X4_ofGoose (h : HS) (p1 : Int32) (p2 : Int32) : pk (f_X4_ofGoose h p1 p2) (fun a => Fr S_X4_ofGoose h a.2) := by
  unfold f_X4_ofGoose
  refine pk_if (fun _ => ?_) (fun _ => ?_)
  · exact pk_mono (w_f_X4_ofGoose_28 h) (fun _ k => Fr_trans (Fr_refl _ h) (Fr_mono fs_X4_ofGoose_28__X4_ofGoose k))
  · refine pk_if (fun _ => ?_) (fun _ => ?_)
    · exact pk_mono (w_f_X4_ofGoose_28 h) (fun _ k => Fr_trans (Fr_refl _ h) (Fr_mono fs_X4_ofGoose_28__X4_ofGoose k))
    · refine pk_if (fun _ => ?_) (fun _ => ?_)
      · exact pk_mono (w_f_X4_ofGoose_28 h) (fun _ k => Fr_trans (Fr_refl _ h) (Fr_mono fs_X4_ofGoose_28__X4_ofGoose k))
      · refine pk_if (fun _ => ?_) (fun _ => ?_)
        · exact pk_mono (w_f_X4_ofGoose_28 h) (fun _ k => Fr_trans (Fr_refl _ h) (Fr_mono fs_X4_ofGoose_28__X4_ofGoose k))
        · refine pk_if (fun _ => ?_) (fun _ => ?_)
          · refine pk_chk (fun _ => ?_)
            exact pk_some (Fr_refl _ h)
          · exact pk_mono (w_f_X4_ofGoose_28 h) (fun _ k => Fr_trans (Fr_refl _ h) (Fr_mono fs_X4_ofGoose_28__X4_ofGoose k))
def S_X4_setGoose_30 : CL := []
theorem w_f_X4_setGoose_30 (h : HS) : pk (f_X4_setGoose_30 h) (fun a => Fr S_X4_setGoose_30 h a) := by
  unfold f_X4_setGoose_30
  exact pk_some (Fr_refl _ h)
def S_X4_setGoose : CL := [(1, 1, 0)]
theorem fm_X4_setGoose_1_1_0 : (1, 1, 0) ∈ S_X4_setGoose := by decide
theorem fs_X4_hasGoose__X4_setGoose : ∀ x ∈ S_X4_hasGoose, x ∈ S_X4_setGoose := by decide
theorem fs_X4_setGoose_30__X4_setGoose : ∀ x ∈ S_X4_setGoose_30, x ∈ S_X4_setGoose := by decide
theorem w_f_X4_setGoose (h : HS) (p1 : Int32) (p2 : Int32) (p3 : Int32) : pk (f_X4_setGoose h p1 p2 p3) (fun a => Fr S_X4_setGoose h a) := by
  unfold f_X4_setGoose
  refine pk_ob2 (w_f_X4_hasGoose h p1) (fun r_1 h_1 k_1 => ?_)
  replace k_1 := Fr_trans (Fr_refl _ h) (Fr_mono fs_X4_hasGoose__X4_setGoose k_1)
  refine pk_if (fun _ => ?_) (fun _ => ?_)
  · exact pk_mono (w_f_X4_setGoose_30 h_1) (fun _ k => Fr_trans k_1 (Fr_mono fs_X4_setGoose_30__X4_setGoose k))
  · refine pk_if (fun _ => ?_) (fun _ => ?_)
    · exact pk_mono (w_f_X4_setGoose_30 h_1) (fun _ k => Fr_trans k_1 (Fr_mono fs_X4_setGoose_30__X4_setGoose k))
    · refine pk_if (fun _ => ?_) (fun _ => ?_)
      · exact pk_mono (w_f_X4_setGoose_30 h_1) (fun _ k => Fr_trans k_1 (Fr_mono fs_X4_setGoose_30__X4_setGoose k))
      · refine pk_chk (fun _ => ?_)
        exact pk_mono (w_f_X4_setGoose_30 (sA h_1 1 0 (upd (eA h_1 1 0) ((((p1 * 9) + p2)).toNatClampNeg) p3))) (fun _ k => Fr_trans (Fr_sA fm_X4_setGoose_1_1_0 k_1) (Fr_mono fs_X4_setGoose_30__X4_setGoose k))
def S_X4_ofMarket_26 : CL := []
theorem w_f_X4_ofMarket_26 (h : HS) : pk (f_X4_ofMarket_26 h) (fun a => Fr S_X4_ofMarket_26 h a.2) := by
  unfold f_X4_ofMarket_26
  exact pk_some (Fr_refl _ h)
def S_X4_ofMarket : CL := []
theorem fs_X4_ofMarket_26__X4_ofMarket : ∀ x ∈ S_X4_ofMarket_26, x ∈ S_X4_ofMarket := by decide
theorem w_f_X4_ofMarket (h : HS) (p1 : Int32) (p2 : Int32) : pk (f_X4_ofMarket h p1 p2) (fun a => Fr S_X4_ofMarket h a.2) := by
  unfold f_X4_ofMarket
  refine pk_if (fun _ => ?_) (fun _ => ?_)
  · exact pk_mono (w_f_X4_ofMarket_26 h) (fun _ k => Fr_trans (Fr_refl _ h) (Fr_mono fs_X4_ofMarket_26__X4_ofMarket k))
  · refine pk_if (fun _ => ?_) (fun _ => ?_)
    · exact pk_mono (w_f_X4_ofMarket_26 h) (fun _ k => Fr_trans (Fr_refl _ h) (Fr_mono fs_X4_ofMarket_26__X4_ofMarket k))
    · refine pk_if (fun _ => ?_) (fun _ => ?_)
      · exact pk_mono (w_f_X4_ofMarket_26 h) (fun _ k => Fr_trans (Fr_refl _ h) (Fr_mono fs_X4_ofMarket_26__X4_ofMarket k))
      · refine pk_if (fun _ => ?_) (fun _ => ?_)
        · exact pk_mono (w_f_X4_ofMarket_26 h) (fun _ k => Fr_trans (Fr_refl _ h) (Fr_mono fs_X4_ofMarket_26__X4_ofMarket k))
        · refine pk_if (fun _ => ?_) (fun _ => ?_)
          · refine pk_chk (fun _ => ?_)
            exact pk_some (Fr_refl _ h)
          · exact pk_mono (w_f_X4_ofMarket_26 h) (fun _ k => Fr_trans (Fr_refl _ h) (Fr_mono fs_X4_ofMarket_26__X4_ofMarket k))
def S_X4_addMarket : CL := [(0, 1, 4), (1, 1, 1)]
theorem fm_X4_addMarket_0_1_4 : (0, 1, 4) ∈ S_X4_addMarket := by decide
theorem fm_X4_addMarket_1_1_1 : (1, 1, 1) ∈ S_X4_addMarket := by decide
theorem w_f_X4_addMarket (h : HS) (p1 : Int32) (p2 : Int32) (p3 : Int32) : pk (f_X4_addMarket h p1 p2 p3) (fun a => Fr S_X4_addMarket h a.2) := by
  unfold f_X4_addMarket
  refine pk_if (fun _ => ?_) (fun _ => ?_)
  · refine pk_chk (fun _ => ?_)
    refine pk_chk (fun _ => ?_)
    refine pk_chk (fun _ => ?_)
    exact pk_some (Fr_sI fm_X4_addMarket_0_1_4 (Fr_sA fm_X4_addMarket_1_1_1 (Fr_sA fm_X4_addMarket_1_1_1 (Fr_sA fm_X4_addMarket_1_1_1 (Fr_refl _ h)))))
  · exact pk_some (Fr_refl _ h)
def S_X4_addGoose : CL := [(0, 1, 3), (1, 1, 0)]
theorem fm_X4_addGoose_0_1_3 : (0, 1, 3) ∈ S_X4_addGoose := by decide
theorem fs_X4_setGoose__X4_addGoose : ∀ x ∈ S_X4_setGoose, x ∈ S_X4_addGoose := by decide
theorem w_f_X4_addGoose (h : HS) (p1 : Int32) (p2 : Int32) : pk (f_X4_addGoose h p1 p2) (fun a => Fr S_X4_addGoose h a.2) := by
  unfold f_X4_addGoose
  refine pk_if (fun _ => ?_) (fun _ => ?_)
  · refine pk_ob1 (w_f_X4_setGoose (sI h 1 3 ((eI h 1 3) + 1)) (eI h 1 3) 0 p1) (fun h_2 k_1 => ?_)
    replace k_1 := Fr_trans (Fr_sI fm_X4_addGoose_0_1_3 (Fr_refl _ h)) (Fr_mono fs_X4_setGoose__X4_addGoose k_1)
    refine pk_ob1 (w_f_X4_setGoose h_2 (eI h 1 3) 1 p2) (fun h_3 k_2 => ?_)
    replace k_2 := Fr_trans k_1 (Fr_mono fs_X4_setGoose__X4_addGoose k_2)
    refine pk_ob1 (w_f_X4_setGoose h_3 (eI h 1 3) 2 (-1)) (fun h_4 k_3 => ?_)
    replace k_3 := Fr_trans k_2 (Fr_mono fs_X4_setGoose__X4_addGoose k_3)
    refine pk_ob1 (w_f_X4_setGoose h_4 (eI h 1 3) 3 (-1)) (fun h_5 k_4 => ?_)
    replace k_4 := Fr_trans k_3 (Fr_mono fs_X4_setGoose__X4_addGoose k_4)
    refine pk_ob1 (w_f_X4_setGoose h_5 (eI h 1 3) 4 0) (fun h_6 k_5 => ?_)
    replace k_5 := Fr_trans k_4 (Fr_mono fs_X4_setGoose__X4_addGoose k_5)
    refine pk_ob1 (w_f_X4_setGoose h_6 (eI h 1 3) 5 (-1)) (fun h_7 k_6 => ?_)
    replace k_6 := Fr_trans k_5 (Fr_mono fs_X4_setGoose__X4_addGoose k_6)
    refine pk_ob1 (w_f_X4_setGoose h_7 (eI h 1 3) 6 (-1)) (fun h_8 k_7 => ?_)
    replace k_7 := Fr_trans k_6 (Fr_mono fs_X4_setGoose__X4_addGoose k_7)
    refine pk_ob1 (w_f_X4_setGoose h_8 (eI h 1 3) 7 (-1)) (fun h_9 k_8 => ?_)
    replace k_8 := Fr_trans k_7 (Fr_mono fs_X4_setGoose__X4_addGoose k_8)
    refine pk_ob1 (w_f_X4_setGoose h_9 (eI h 1 3) 8 0) (fun h_10 k_9 => ?_)
    replace k_9 := Fr_trans k_8 (Fr_mono fs_X4_setGoose__X4_addGoose k_9)
    exact pk_some k_9
  · exact pk_some (Fr_refl _ h)
def S_X4_isHome_14 : CL := []
theorem w_f_X4_isHome_14 (h : HS) (y0 : Int32) : pk (f_X4_isHome_14 h y0) (fun a => Fr S_X4_isHome_14 h a.2) := by
  unfold f_X4_isHome_14
  refine pk_chk (fun _ => ?_)
  exact pk_some (Fr_refl _ h)
def S_X4_isHome : CL := []
theorem fs_X4_ofGoose__X4_isHome : ∀ x ∈ S_X4_ofGoose, x ∈ S_X4_isHome := by decide
theorem fs_X4_isHome_14__X4_isHome : ∀ x ∈ S_X4_isHome_14, x ∈ S_X4_isHome := by decide
theorem w_f_X4_isHome (h : HS) (p1 : Int32) : pk (f_X4_isHome h p1) (fun a => Fr S_X4_isHome h a.2) := by
  unfold f_X4_isHome
  refine pk_ob2 (w_f_X4_ofGoose h p1 4) (fun r_1 h_1 k_1 => ?_)
  replace k_1 := Fr_trans (Fr_refl _ h) (Fr_mono fs_X4_ofGoose__X4_isHome k_1)
  refine pk_if (fun _ => ?_) (fun _ => ?_)
  · exact pk_mono (w_f_X4_isHome_14 h_1 1) (fun _ k => Fr_trans k_1 (Fr_mono fs_X4_isHome_14__X4_isHome k))
  · exact pk_mono (w_f_X4_isHome_14 h_1 0) (fun _ k => Fr_trans k_1 (Fr_mono fs_X4_isHome_14__X4_isHome k))
def S_X4_isFree_23 : CL := []
theorem w_f_X4_isFree_23 (h : HS) (y0 : Int32) : pk (f_X4_isFree_23 h y0) (fun a => Fr S_X4_isFree_23 h a.2) := by
  unfold f_X4_isFree_23
  refine pk_chk (fun _ => ?_)
  exact pk_some (Fr_refl _ h)
def S_X4_isFree_22 : CL := []
theorem fs_X4_isFree_23__X4_isFree_22 : ∀ x ∈ S_X4_isFree_23, x ∈ S_X4_isFree_22 := by decide
theorem w_f_X4_isFree_22 (h : HS) : pk (f_X4_isFree_22 h) (fun a => Fr S_X4_isFree_22 h a.2) := by
  unfold f_X4_isFree_22
  exact pk_mono (w_f_X4_isFree_23 h 0) (fun _ k => Fr_trans (Fr_refl _ h) (Fr_mono fs_X4_isFree_23__X4_isFree_22 k))
def S_X4_isFree : CL := []
theorem fs_X4_isHome__X4_isFree : ∀ x ∈ S_X4_isHome, x ∈ S_X4_isFree := by decide
theorem fs_X4_isFree_22__X4_isFree : ∀ x ∈ S_X4_isFree_22, x ∈ S_X4_isFree := by decide
theorem fs_X4_ofGoose__X4_isFree : ∀ x ∈ S_X4_ofGoose, x ∈ S_X4_isFree := by decide
theorem fs_X4_isFree_23__X4_isFree : ∀ x ∈ S_X4_isFree_23, x ∈ S_X4_isFree := by decide
theorem w_f_X4_isFree (h : HS) (p1 : Int32) : pk (f_X4_isFree h p1) (fun a => Fr S_X4_isFree h a.2) := by
  unfold f_X4_isFree
  refine pk_ob2 (w_f_X4_isHome h p1) (fun r_1 h_1 k_1 => ?_)
  replace k_1 := Fr_trans (Fr_refl _ h) (Fr_mono fs_X4_isHome__X4_isFree k_1)
  refine pk_if (fun _ => ?_) (fun _ => ?_)
  · exact pk_mono (w_f_X4_isFree_22 h_1) (fun _ k => Fr_trans k_1 (Fr_mono fs_X4_isFree_22__X4_isFree k))
  · refine pk_ob2 (w_f_X4_ofGoose h_1 p1 8) (fun r_3 h_3 k_2 => ?_)
    replace k_2 := Fr_trans k_1 (Fr_mono fs_X4_ofGoose__X4_isFree k_2)
    refine pk_if (fun _ => ?_) (fun _ => ?_)
    · exact pk_mono (w_f_X4_isFree_23 h_3 1) (fun _ k => Fr_trans k_2 (Fr_mono fs_X4_isFree_23__X4_isFree k))
    · exact pk_mono (w_f_X4_isFree_22 h_3) (fun _ k => Fr_trans k_2 (Fr_mono fs_X4_isFree_22__X4_isFree k))
def S_X4_settle : CL := [(1, 1, 0)]
theorem fs_X4_setGoose__X4_settle : ∀ x ∈ S_X4_setGoose, x ∈ S_X4_settle := by decide
theorem w_f_X4_settle (h : HS) (p1 : Int32) (p2 : Int32) : pk (f_X4_settle h p1 p2) (fun a => Fr S_X4_settle h a) := by
  unfold f_X4_settle
  refine pk_ob1 (w_f_X4_setGoose h p1 4 p2) (fun h_1 k_1 => ?_)
  replace k_1 := Fr_trans (Fr_refl _ h) (Fr_mono fs_X4_setGoose__X4_settle k_1)
  refine pk_ob1 (w_f_X4_setGoose h_1 p1 7 (eI h_1 1 7)) (fun h_2 k_2 => ?_)
  replace k_2 := Fr_trans k_1 (Fr_mono fs_X4_setGoose__X4_settle k_2)
  exact pk_some k_2
def S_X4_countFate_4 : CL := []
theorem w_f_X4_countFate_25 (k4 : HS → Int32 → Int32 → Int32 → Option (Int32 × HS)) (hk_k4 : ∀ (h : HS) (x0 : Int32) (x1 : Int32) (x2 : Int32), pk (k4 h x0 x1 x2) (fun a => Fr S_X4_countFate_4 h a.2)) (h : HS) (x1 : Int32) (x2 : Int32) (x3 : Int32) : pk (f_X4_countFate_25 k4 h x1 x2 x3) (fun a => Fr S_X4_countFate_4 h a.2) := by
  unfold f_X4_countFate_25
  exact pk_mono (hk_k4 h x1 x2 (x3 + 1)) (fun _ k => Fr_trans (Fr_refl _ h) k)
theorem fs_X4_ofGoose__X4_countFate_4 : ∀ x ∈ S_X4_ofGoose, x ∈ S_X4_countFate_4 := by decide
theorem w_f_X4_countFate_4  : ∀ (n : Nat) (h : HS) (x1 : Int32) (x2 : Int32) (x3 : Int32), pk (f_X4_countFate_4  n h x1 x2 x3) (fun a => Fr S_X4_countFate_4 h a.2) := by
  intro n
  induction n with
  | zero => intro h x1 x2 x3; exact pk_none
  | succ n ih =>
    intro h x1 x2 x3
    rw [f_X4_countFate_4_s]
    refine pk_if (fun _ => ?_) (fun _ => ?_)
    · exact pk_some (Fr_refl _ h)
    · refine pk_ob2 (w_f_X4_ofGoose h x3 4) (fun r_2 h_2 k_1 => ?_)
      replace k_1 := Fr_trans (Fr_refl _ h) (Fr_mono fs_X4_ofGoose__X4_countFate_4 k_1)
      refine pk_if (fun _ => ?_) (fun _ => ?_)
      · exact pk_mono (w_f_X4_countFate_25 (f_X4_countFate_4 n) ih h_2 x1 (x2 + 1) x3) (fun _ k => Fr_trans k_1 k)
      · exact pk_mono (w_f_X4_countFate_25 (f_X4_countFate_4 n) ih h_2 x1 x2 x3) (fun _ k => Fr_trans k_1 k)
def S_X4_countFate : CL := []
theorem fs_X4_countFate_4__X4_countFate : ∀ x ∈ S_X4_countFate_4, x ∈ S_X4_countFate := by decide
theorem w_f_X4_countFate (h : HS) (p1 : Int32) : pk (f_X4_countFate h p1) (fun a => Fr S_X4_countFate h a.2) := by
  unfold f_X4_countFate
  exact pk_mono (w_f_X4_countFate_4 8589934592 h p1 0 0) (fun _ k => Fr_trans (Fr_refl _ h) (Fr_mono fs_X4_countFate_4__X4_countFate k))
def S_X4_dailyNeed : CL := []
theorem fs_X4_countFate__X4_dailyNeed : ∀ x ∈ S_X4_countFate, x ∈ S_X4_dailyNeed := by decide
theorem w_f_X4_dailyNeed (h : HS) : pk (f_X4_dailyNeed h) (fun a => Fr S_X4_dailyNeed h a.2) := by
  unfold f_X4_dailyNeed
  refine pk_ob2 (w_f_X4_countFate h 0) (fun r_1 h_1 k_1 => ?_)
  replace k_1 := Fr_trans (Fr_refl _ h) (Fr_mono fs_X4_countFate__X4_dailyNeed k_1)
  exact pk_some k_1
def S_X4_eatDaily_31 : CL := [(0, 1, 5), (1, 1, 0)]
theorem fm_X4_eatDaily_31_0_1_5 : (0, 1, 5) ∈ S_X4_eatDaily_31 := by decide
theorem fs_X4_isFree__X4_eatDaily_31 : ∀ x ∈ S_X4_isFree, x ∈ S_X4_eatDaily_31 := by decide
theorem fs_X4_settle__X4_eatDaily_31 : ∀ x ∈ S_X4_settle, x ∈ S_X4_eatDaily_31 := by decide
theorem fs_X4_ofGoose__X4_eatDaily_31 : ∀ x ∈ S_X4_ofGoose, x ∈ S_X4_eatDaily_31 := by decide
theorem w_f_X4_eatDaily_31  : ∀ (n : Nat) (h : HS) (x2 : Int32), pk (f_X4_eatDaily_31  n h x2) (fun a => Fr S_X4_eatDaily_31 h a) := by
  intro n
  induction n with
  | zero => intro h x2; exact pk_none
  | succ n ih =>
    intro h x2
    rw [f_X4_eatDaily_31_s]
    refine pk_if (fun _ => ?_) (fun _ => ?_)
    · exact pk_some (Fr_refl _ h)
    · refine pk_ob2 (w_f_X4_isFree h x2) (fun r_4 h_4 k_1 => ?_)
      replace k_1 := Fr_trans (Fr_refl _ h) (Fr_mono fs_X4_isFree__X4_eatDaily_31 k_1)
      refine pk_if (fun _ => ?_) (fun _ => ?_)
      · exact pk_mono (ih h_4 (x2 + 1)) (fun _ k => Fr_trans k_1 k)
      · refine pk_ob1 (w_f_X4_settle h_4 x2 5) (fun h_6 k_2 => ?_)
        replace k_2 := Fr_trans k_1 (Fr_mono fs_X4_settle__X4_eatDaily_31 k_2)
        refine pk_ob2 (w_f_X4_ofGoose h_6 x2 0) (fun r_7 h_7 k_3 => ?_)
        replace k_3 := Fr_trans k_2 (Fr_mono fs_X4_ofGoose__X4_eatDaily_31 k_3)
        exact pk_some (Fr_sI fm_X4_eatDaily_31_0_1_5 k_3)
def S_X4_eatDaily : CL := [(0, 1, 5), (1, 1, 0)]
theorem fm_X4_eatDaily_0_1_5 : (0, 1, 5) ∈ S_X4_eatDaily := by decide
theorem fs_X4_dailyNeed__X4_eatDaily : ∀ x ∈ S_X4_dailyNeed, x ∈ S_X4_eatDaily := by decide
theorem fs_X4_eatDaily_31__X4_eatDaily : ∀ x ∈ S_X4_eatDaily_31, x ∈ S_X4_eatDaily := by decide
theorem w_f_X4_eatDaily (h : HS) : pk (f_X4_eatDaily h) (fun a => Fr S_X4_eatDaily h a) := by
  unfold f_X4_eatDaily
  refine pk_ob2 (w_f_X4_dailyNeed h) (fun r_1 h_1 k_1 => ?_)
  replace k_1 := Fr_trans (Fr_refl _ h) (Fr_mono fs_X4_dailyNeed__X4_eatDaily k_1)
  refine pk_if (fun _ => ?_) (fun _ => ?_)
  · exact pk_mono (w_f_X4_eatDaily_31 8589934592 (sI h_1 1 5 0) 0) (fun _ k => Fr_trans (Fr_sI fm_X4_eatDaily_0_1_5 k_1) (Fr_mono fs_X4_eatDaily_31__X4_eatDaily k))
  · exact pk_some (Fr_sI fm_X4_eatDaily_0_1_5 k_1)
def S_X4_draw : CL := [(0, 1, 8)]
theorem fm_X4_draw_0_1_8 : (0, 1, 8) ∈ S_X4_draw := by decide
theorem w_f_X4_draw (h : HS) : pk (f_X4_draw h) (fun a => Fr S_X4_draw h a.2) := by
  unfold f_X4_draw
  exact pk_some (Fr_sI fm_X4_draw_0_1_8 (Fr_refl _ h))
def S_X4_keepStep_69 : CL := []
theorem w_f_X4_keepStep_69 (h : HS) : pk (f_X4_keepStep_69 h) (fun a => Fr S_X4_keepStep_69 h a) := by
  unfold f_X4_keepStep_69
  exact pk_some (Fr_refl _ h)
def S_X4_keepStep_35 : CL := [(1, 1, 2)]
theorem fm_X4_keepStep_35_1_1_2 : (1, 1, 2) ∈ S_X4_keepStep_35 := by decide
theorem fs_X4_keepStep_69__X4_keepStep_35 : ∀ x ∈ S_X4_keepStep_69, x ∈ S_X4_keepStep_35 := by decide
theorem w_f_X4_keepStep_35 (h : HS) : pk (f_X4_keepStep_35 h) (fun a => Fr S_X4_keepStep_35 h a) := by
  unfold f_X4_keepStep_35
  refine pk_if (fun _ => ?_) (fun _ => ?_)
  · exact pk_mono (w_f_X4_keepStep_69 h) (fun _ k => Fr_trans (Fr_refl _ h) (Fr_mono fs_X4_keepStep_69__X4_keepStep_35 k))
  · refine pk_if (fun _ => ?_) (fun _ => ?_)
    · refine pk_chk (fun _ => ?_)
      refine pk_chk (fun _ => ?_)
      refine pk_chk (fun _ => ?_)
      refine pk_chk (fun _ => ?_)
      refine pk_chk (fun _ => ?_)
      refine pk_chk (fun _ => ?_)
      exact pk_some (Fr_sA fm_X4_keepStep_35_1_1_2 (Fr_sA fm_X4_keepStep_35_1_1_2 (Fr_sA fm_X4_keepStep_35_1_1_2 (Fr_sA fm_X4_keepStep_35_1_1_2 (Fr_sA fm_X4_keepStep_35_1_1_2 (Fr_refl _ h))))))
    · exact pk_mono (w_f_X4_keepStep_69 h) (fun _ k => Fr_trans (Fr_refl _ h) (Fr_mono fs_X4_keepStep_69__X4_keepStep_35 k))
def S_X4_keepStep : CL := [(0, 1, 11), (0, 1, 12), (1, 1, 2)]
theorem fm_X4_keepStep_0_1_11 : (0, 1, 11) ∈ S_X4_keepStep := by decide
theorem fm_X4_keepStep_0_1_12 : (0, 1, 12) ∈ S_X4_keepStep := by decide
theorem fs_X4_keepStep_35__X4_keepStep : ∀ x ∈ S_X4_keepStep_35, x ∈ S_X4_keepStep := by decide
theorem w_f_X4_keepStep (h : HS) : pk (f_X4_keepStep h) (fun a => Fr S_X4_keepStep h a) := by
  unfold f_X4_keepStep
  refine pk_if (fun _ => ?_) (fun _ => ?_)
  · exact pk_mono (w_f_X4_keepStep_35 (sI h 1 11 (((eI h 1 11) + 1) - ((eI h 1 11) + 1) / 20 * 20))) (fun _ k => Fr_trans (Fr_sI fm_X4_keepStep_0_1_11 (Fr_refl _ h)) (Fr_mono fs_X4_keepStep_35__X4_keepStep k))
  · exact pk_mono (w_f_X4_keepStep_35 (sI h 1 12 ((eI h 1 12) + 1))) (fun _ k => Fr_trans (Fr_sI fm_X4_keepStep_0_1_12 (Fr_refl _ h)) (Fr_mono fs_X4_keepStep_35__X4_keepStep k))
def S_X4_takeStepBack_42 : CL := []
theorem w_f_X4_takeStepBack_42 (h : HS) : pk (f_X4_takeStepBack_42 h) (fun a => Fr S_X4_takeStepBack_42 h a.2) := by
  unfold f_X4_takeStepBack_42
  exact pk_some (Fr_refl _ h)
def S_X4_takeStepBack : CL := [(0, 1, 5), (0, 1, 7), (0, 1, 8), (0, 1, 12), (1, 1, 0)]
theorem fm_X4_takeStepBack_0_1_8 : (0, 1, 8) ∈ S_X4_takeStepBack := by decide
theorem fm_X4_takeStepBack_0_1_7 : (0, 1, 7) ∈ S_X4_takeStepBack := by decide
theorem fm_X4_takeStepBack_0_1_5 : (0, 1, 5) ∈ S_X4_takeStepBack := by decide
theorem fm_X4_takeStepBack_1_1_0 : (1, 1, 0) ∈ S_X4_takeStepBack := by decide
theorem fm_X4_takeStepBack_0_1_12 : (0, 1, 12) ∈ S_X4_takeStepBack := by decide
theorem fs_X4_takeStepBack_42__X4_takeStepBack : ∀ x ∈ S_X4_takeStepBack_42, x ∈ S_X4_takeStepBack := by decide
theorem w_f_X4_takeStepBack (h : HS) : pk (f_X4_takeStepBack h) (fun a => Fr S_X4_takeStepBack h a.2) := by
  unfold f_X4_takeStepBack
  refine pk_if (fun _ => ?_) (fun _ => ?_)
  · exact pk_mono (w_f_X4_takeStepBack_42 h) (fun _ k => Fr_trans (Fr_refl _ h) (Fr_mono fs_X4_takeStepBack_42__X4_takeStepBack k))
  · refine pk_if (fun _ => ?_) (fun _ => ?_)
    · exact pk_mono (w_f_X4_takeStepBack_42 h) (fun _ k => Fr_trans (Fr_refl _ h) (Fr_mono fs_X4_takeStepBack_42__X4_takeStepBack k))
    · refine pk_if (fun _ => ?_) (fun _ => ?_)
      · refine pk_chk (fun _ => ?_)
        refine pk_chk (fun _ => ?_)
        refine pk_chk (fun _ => ?_)
        refine pk_chk (fun _ => ?_)
        refine pk_chk (fun _ => ?_)
        refine pk_chk (fun _ => ?_)
        refine pk_chk (fun _ => ?_)
        refine pk_chk (fun _ => ?_)
        exact pk_some (Fr_sI fm_X4_takeStepBack_0_1_8 (Fr_sI fm_X4_takeStepBack_0_1_7 (Fr_sI fm_X4_takeStepBack_0_1_5 (Fr_sA fm_X4_takeStepBack_1_1_0 (Fr_sI fm_X4_takeStepBack_0_1_12 (Fr_refl _ h))))))
      · exact pk_mono (w_f_X4_takeStepBack_42 h) (fun _ k => Fr_trans (Fr_refl _ h) (Fr_mono fs_X4_takeStepBack_42__X4_takeStepBack k))
def S_X4_copyFrom_i : CL := [(0, 2, 3), (0, 2, 4), (0, 2, 5), (0, 2, 6), (0, 2, 7), (0, 2, 8), (0, 2, 9), (0, 2, 10), (0, 2, 11), (0, 2, 12), (1, 2, 0), (1, 2, 1), (1, 2, 2)]
theorem fm_X4_copyFrom_i_0_2_12 : (0, 2, 12) ∈ S_X4_copyFrom_i := by decide
theorem fm_X4_copyFrom_i_0_2_11 : (0, 2, 11) ∈ S_X4_copyFrom_i := by decide
theorem fm_X4_copyFrom_i_0_2_10 : (0, 2, 10) ∈ S_X4_copyFrom_i := by decide
theorem fm_X4_copyFrom_i_0_2_9 : (0, 2, 9) ∈ S_X4_copyFrom_i := by decide
theorem fm_X4_copyFrom_i_0_2_8 : (0, 2, 8) ∈ S_X4_copyFrom_i := by decide
theorem fm_X4_copyFrom_i_0_2_7 : (0, 2, 7) ∈ S_X4_copyFrom_i := by decide
theorem fm_X4_copyFrom_i_0_2_6 : (0, 2, 6) ∈ S_X4_copyFrom_i := by decide
theorem fm_X4_copyFrom_i_0_2_5 : (0, 2, 5) ∈ S_X4_copyFrom_i := by decide
theorem fm_X4_copyFrom_i_0_2_4 : (0, 2, 4) ∈ S_X4_copyFrom_i := by decide
theorem fm_X4_copyFrom_i_0_2_3 : (0, 2, 3) ∈ S_X4_copyFrom_i := by decide
theorem fm_X4_copyFrom_i_1_2_2 : (1, 2, 2) ∈ S_X4_copyFrom_i := by decide
theorem fm_X4_copyFrom_i_1_2_1 : (1, 2, 1) ∈ S_X4_copyFrom_i := by decide
theorem fm_X4_copyFrom_i_1_2_0 : (1, 2, 0) ∈ S_X4_copyFrom_i := by decide
theorem w_f_X4_copyFrom_i (h : HS) : pk (f_X4_copyFrom_i h) (fun a => Fr S_X4_copyFrom_i h a) := by
  unfold f_X4_copyFrom_i
  exact pk_some (Fr_sI fm_X4_copyFrom_i_0_2_12 (Fr_sI fm_X4_copyFrom_i_0_2_11 (Fr_sI fm_X4_copyFrom_i_0_2_10 (Fr_sI fm_X4_copyFrom_i_0_2_9 (Fr_sI fm_X4_copyFrom_i_0_2_8 (Fr_sI fm_X4_copyFrom_i_0_2_7 (Fr_sI fm_X4_copyFrom_i_0_2_6 (Fr_sI fm_X4_copyFrom_i_0_2_5 (Fr_sI fm_X4_copyFrom_i_0_2_4 (Fr_sI fm_X4_copyFrom_i_0_2_3 (Fr_sA fm_X4_copyFrom_i_1_2_2 (Fr_sA fm_X4_copyFrom_i_1_2_1 (Fr_sA fm_X4_copyFrom_i_1_2_0 (Fr_refl _ h))))))))))))))
def S_X4_copyFrom_b : CL := [(0, 1, 3), (0, 1, 4), (0, 1, 5), (0, 1, 6), (0, 1, 7), (0, 1, 8), (0, 1, 9), (0, 1, 10), (0, 1, 11), (0, 1, 12), (1, 1, 0), (1, 1, 1), (1, 1, 2)]
theorem fm_X4_copyFrom_b_0_1_12 : (0, 1, 12) ∈ S_X4_copyFrom_b := by decide
theorem fm_X4_copyFrom_b_0_1_11 : (0, 1, 11) ∈ S_X4_copyFrom_b := by decide
theorem fm_X4_copyFrom_b_0_1_10 : (0, 1, 10) ∈ S_X4_copyFrom_b := by decide
theorem fm_X4_copyFrom_b_0_1_9 : (0, 1, 9) ∈ S_X4_copyFrom_b := by decide
theorem fm_X4_copyFrom_b_0_1_8 : (0, 1, 8) ∈ S_X4_copyFrom_b := by decide
theorem fm_X4_copyFrom_b_0_1_7 : (0, 1, 7) ∈ S_X4_copyFrom_b := by decide
theorem fm_X4_copyFrom_b_0_1_6 : (0, 1, 6) ∈ S_X4_copyFrom_b := by decide
theorem fm_X4_copyFrom_b_0_1_5 : (0, 1, 5) ∈ S_X4_copyFrom_b := by decide
theorem fm_X4_copyFrom_b_0_1_4 : (0, 1, 4) ∈ S_X4_copyFrom_b := by decide
theorem fm_X4_copyFrom_b_0_1_3 : (0, 1, 3) ∈ S_X4_copyFrom_b := by decide
theorem fm_X4_copyFrom_b_1_1_2 : (1, 1, 2) ∈ S_X4_copyFrom_b := by decide
theorem fm_X4_copyFrom_b_1_1_1 : (1, 1, 1) ∈ S_X4_copyFrom_b := by decide
theorem fm_X4_copyFrom_b_1_1_0 : (1, 1, 0) ∈ S_X4_copyFrom_b := by decide
theorem w_f_X4_copyFrom_b (h : HS) : pk (f_X4_copyFrom_b h) (fun a => Fr S_X4_copyFrom_b h a) := by
  unfold f_X4_copyFrom_b
  exact pk_some (Fr_sI fm_X4_copyFrom_b_0_1_12 (Fr_sI fm_X4_copyFrom_b_0_1_11 (Fr_sI fm_X4_copyFrom_b_0_1_10 (Fr_sI fm_X4_copyFrom_b_0_1_9 (Fr_sI fm_X4_copyFrom_b_0_1_8 (Fr_sI fm_X4_copyFrom_b_0_1_7 (Fr_sI fm_X4_copyFrom_b_0_1_6 (Fr_sI fm_X4_copyFrom_b_0_1_5 (Fr_sI fm_X4_copyFrom_b_0_1_4 (Fr_sI fm_X4_copyFrom_b_0_1_3 (Fr_sA fm_X4_copyFrom_b_1_1_2 (Fr_sA fm_X4_copyFrom_b_1_1_1 (Fr_sA fm_X4_copyFrom_b_1_1_0 (Fr_refl _ h))))))))))))))
def S_X5_addFour_3 : CL := [(0, 3, 1), (1, 3, 0)]
theorem w_f_X5_addFour_45 (k3 : HS → Int32 → Int32 → Option HS) (hk_k3 : ∀ (h : HS) (x0 : Int32) (x1 : Int32), pk (k3 h x0 x1) (fun a => Fr S_X5_addFour_3 h a)) (h : HS) (x1 : Int32) (x2 : Int32) : pk (f_X5_addFour_45 k3 h x1 x2) (fun a => Fr S_X5_addFour_3 h a) := by
  unfold f_X5_addFour_45
  exact pk_mono (hk_k3 h x1 (x2 + (-8))) (fun _ k => Fr_trans (Fr_refl _ h) k)
theorem fm_X5_addFour_3_0_3_1 : (0, 3, 1) ∈ S_X5_addFour_3 := by decide
theorem fm_X5_addFour_3_1_3_0 : (1, 3, 0) ∈ S_X5_addFour_3 := by decide
theorem w_f_X5_addFour_3  : ∀ (n : Nat) (h : HS) (x1 : Int32) (x2 : Int32), pk (f_X5_addFour_3  n h x1 x2) (fun a => Fr S_X5_addFour_3 h a) := by
  intro n
  induction n with
  | zero => intro h x1 x2; exact pk_none
  | succ n ih =>
    intro h x1 x2
    rw [f_X5_addFour_3_s]
    refine pk_if (fun _ => ?_) (fun _ => ?_)
    · exact pk_some (Fr_refl _ h)
    · refine pk_if (fun _ => ?_) (fun _ => ?_)
      · exact pk_mono (w_f_X5_addFour_45 (f_X5_addFour_3 n) ih h x1 x2) (fun _ k => Fr_trans (Fr_refl _ h) k)
      · refine pk_chk (fun _ => ?_)
        exact pk_mono (w_f_X5_addFour_45 (f_X5_addFour_3 n) ih (sI (sA h 3 0 (upd (eA h 3 0) (((eI h 3 1)).toNatClampNeg) ((x1 >>> (x2 &&& 31)) &&& 255))) 3 1 ((eI h 3 1) + 1)) x1 x2) (fun _ k => Fr_trans (Fr_sI fm_X5_addFour_3_0_3_1 (Fr_sA fm_X5_addFour_3_1_3_0 (Fr_refl _ h))) k)
def S_X5_addFour : CL := [(0, 3, 1), (1, 3, 0)]
theorem fs_X5_addFour_3__X5_addFour : ∀ x ∈ S_X5_addFour_3, x ∈ S_X5_addFour := by decide
theorem w_f_X5_addFour (h : HS) (p1 : Int32) : pk (f_X5_addFour h p1) (fun a => Fr S_X5_addFour h a) := by
  unfold f_X5_addFour
  exact pk_mono (w_f_X5_addFour_3 8589934592 h p1 24) (fun _ k => Fr_trans (Fr_refl _ h) (Fr_mono fs_X5_addFour_3__X5_addFour k))
def S_X5_byteAt_31 : CL := []
theorem w_f_X5_byteAt_31 (h : HS) (y0 : Int32) : pk (f_X5_byteAt_31 h y0) (fun a => Fr S_X5_byteAt_31 h a.2) := by
  unfold f_X5_byteAt_31
  exact pk_some (Fr_refl _ h)
def S_X5_byteAt_30 : CL := []
theorem fs_X5_byteAt_31__X5_byteAt_30 : ∀ x ∈ S_X5_byteAt_31, x ∈ S_X5_byteAt_30 := by decide
theorem w_f_X5_byteAt_30 (h : HS) : pk (f_X5_byteAt_30 h) (fun a => Fr S_X5_byteAt_30 h a.2) := by
  unfold f_X5_byteAt_30
  exact pk_mono (w_f_X5_byteAt_31 h 0) (fun _ k => Fr_trans (Fr_refl _ h) (Fr_mono fs_X5_byteAt_31__X5_byteAt_30 k))
def S_X5_byteAt : CL := []
theorem fs_X5_byteAt_30__X5_byteAt : ∀ x ∈ S_X5_byteAt_30, x ∈ S_X5_byteAt := by decide
theorem fs_X5_byteAt_31__X5_byteAt : ∀ x ∈ S_X5_byteAt_31, x ∈ S_X5_byteAt := by decide
theorem w_f_X5_byteAt (h : HS) (p1 : Int32) : pk (f_X5_byteAt h p1) (fun a => Fr S_X5_byteAt h a.2) := by
  unfold f_X5_byteAt
  refine pk_if (fun _ => ?_) (fun _ => ?_)
  · exact pk_mono (w_f_X5_byteAt_30 h) (fun _ k => Fr_trans (Fr_refl _ h) (Fr_mono fs_X5_byteAt_30__X5_byteAt k))
  · refine pk_if (fun _ => ?_) (fun _ => ?_)
    · exact pk_mono (w_f_X5_byteAt_30 h) (fun _ k => Fr_trans (Fr_refl _ h) (Fr_mono fs_X5_byteAt_30__X5_byteAt k))
    · refine pk_if (fun _ => ?_) (fun _ => ?_)
      · exact pk_mono (w_f_X5_byteAt_30 h) (fun _ k => Fr_trans (Fr_refl _ h) (Fr_mono fs_X5_byteAt_30__X5_byteAt k))
      · refine pk_chk (fun _ => ?_)
        exact pk_mono (w_f_X5_byteAt_31 h ((eA h 3 0) ((p1).toNatClampNeg))) (fun _ k => Fr_trans (Fr_refl _ h) (Fr_mono fs_X5_byteAt_31__X5_byteAt k))
def S_X7_kind_36 : CL := []
theorem w_f_X7_kind_36 (h : HS) (y0 : Int32) : pk (f_X7_kind_36 h y0) (fun a => Fr S_X7_kind_36 h a.2) := by
  unfold f_X7_kind_36
  exact pk_some (Fr_refl _ h)
def S_X7_kind_35 : CL := []
theorem fs_X7_kind_36__X7_kind_35 : ∀ x ∈ S_X7_kind_36, x ∈ S_X7_kind_35 := by decide
theorem w_f_X7_kind_35 (h : HS) : pk (f_X7_kind_35 h) (fun a => Fr S_X7_kind_35 h a.2) := by
  unfold f_X7_kind_35
  exact pk_mono (w_f_X7_kind_36 h 0) (fun _ k => Fr_trans (Fr_refl _ h) (Fr_mono fs_X7_kind_36__X7_kind_35 k))
def S_X7_kind : CL := []
theorem fs_X7_kind_35__X7_kind : ∀ x ∈ S_X7_kind_35, x ∈ S_X7_kind := by decide
theorem fs_X7_kind_36__X7_kind : ∀ x ∈ S_X7_kind_36, x ∈ S_X7_kind := by decide
theorem w_f_X7_kind (h : HS) : pk (f_X7_kind h) (fun a => Fr S_X7_kind h a.2) := by
  unfold f_X7_kind
  refine pk_if (fun _ => ?_) (fun _ => ?_)
  · exact pk_mono (w_f_X7_kind_35 h) (fun _ k => Fr_trans (Fr_refl _ h) (Fr_mono fs_X7_kind_35__X7_kind k))
  · refine pk_if (fun _ => ?_) (fun _ => ?_)
    · exact pk_mono (w_f_X7_kind_35 h) (fun _ k => Fr_trans (Fr_refl _ h) (Fr_mono fs_X7_kind_35__X7_kind k))
    · refine pk_chk (fun _ => ?_)
      exact pk_mono (w_f_X7_kind_36 h ((eA h 4 0) (((eI h 4 4)).toNatClampNeg))) (fun _ k => Fr_trans (Fr_refl _ h) (Fr_mono fs_X7_kind_36__X7_kind k))
def S_X7_start_36 : CL := []
theorem w_f_X7_start_36 (h : HS) (y0 : Int32) : pk (f_X7_start_36 h y0) (fun a => Fr S_X7_start_36 h a.2) := by
  unfold f_X7_start_36
  exact pk_some (Fr_refl _ h)
def S_X7_start_35 : CL := []
theorem fs_X7_start_36__X7_start_35 : ∀ x ∈ S_X7_start_36, x ∈ S_X7_start_35 := by decide
theorem w_f_X7_start_35 (h : HS) : pk (f_X7_start_35 h) (fun a => Fr S_X7_start_35 h a.2) := by
  unfold f_X7_start_35
  exact pk_mono (w_f_X7_start_36 h 0) (fun _ k => Fr_trans (Fr_refl _ h) (Fr_mono fs_X7_start_36__X7_start_35 k))
def S_X7_start : CL := []
theorem fs_X7_start_35__X7_start : ∀ x ∈ S_X7_start_35, x ∈ S_X7_start := by decide
theorem fs_X7_start_36__X7_start : ∀ x ∈ S_X7_start_36, x ∈ S_X7_start := by decide
theorem w_f_X7_start (h : HS) : pk (f_X7_start h) (fun a => Fr S_X7_start h a.2) := by
  unfold f_X7_start
  refine pk_if (fun _ => ?_) (fun _ => ?_)
  · exact pk_mono (w_f_X7_start_35 h) (fun _ k => Fr_trans (Fr_refl _ h) (Fr_mono fs_X7_start_35__X7_start k))
  · refine pk_if (fun _ => ?_) (fun _ => ?_)
    · exact pk_mono (w_f_X7_start_35 h) (fun _ k => Fr_trans (Fr_refl _ h) (Fr_mono fs_X7_start_35__X7_start k))
    · refine pk_chk (fun _ => ?_)
      exact pk_mono (w_f_X7_start_36 h ((eA h 4 1) (((eI h 4 4)).toNatClampNeg))) (fun _ k => Fr_trans (Fr_refl _ h) (Fr_mono fs_X7_start_36__X7_start k))
def S_X7_value_36 : CL := []
theorem w_f_X7_value_36 (h : HS) (y0 : Int32) : pk (f_X7_value_36 h y0) (fun a => Fr S_X7_value_36 h a.2) := by
  unfold f_X7_value_36
  exact pk_some (Fr_refl _ h)
def S_X7_value_35 : CL := []
theorem fs_X7_value_36__X7_value_35 : ∀ x ∈ S_X7_value_36, x ∈ S_X7_value_35 := by decide
theorem w_f_X7_value_35 (h : HS) : pk (f_X7_value_35 h) (fun a => Fr S_X7_value_35 h a.2) := by
  unfold f_X7_value_35
  exact pk_mono (w_f_X7_value_36 h 0) (fun _ k => Fr_trans (Fr_refl _ h) (Fr_mono fs_X7_value_36__X7_value_35 k))
def S_X7_value : CL := []
theorem fs_X7_value_35__X7_value : ∀ x ∈ S_X7_value_35, x ∈ S_X7_value := by decide
theorem fs_X7_value_36__X7_value : ∀ x ∈ S_X7_value_36, x ∈ S_X7_value := by decide
theorem w_f_X7_value (h : HS) : pk (f_X7_value h) (fun a => Fr S_X7_value h a.2) := by
  unfold f_X7_value
  refine pk_if (fun _ => ?_) (fun _ => ?_)
  · exact pk_mono (w_f_X7_value_35 h) (fun _ k => Fr_trans (Fr_refl _ h) (Fr_mono fs_X7_value_35__X7_value k))
  · refine pk_if (fun _ => ?_) (fun _ => ?_)
    · exact pk_mono (w_f_X7_value_35 h) (fun _ k => Fr_trans (Fr_refl _ h) (Fr_mono fs_X7_value_35__X7_value k))
    · refine pk_chk (fun _ => ?_)
      exact pk_mono (w_f_X7_value_36 h ((eA h 4 2) (((eI h 4 4)).toNatClampNeg))) (fun _ k => Fr_trans (Fr_refl _ h) (Fr_mono fs_X7_value_36__X7_value k))
def S_X7_advance_23 : CL := []
theorem w_f_X7_advance_23 (h : HS) : pk (f_X7_advance_23 h) (fun a => Fr S_X7_advance_23 h a) := by
  unfold f_X7_advance_23
  exact pk_some (Fr_refl _ h)
def S_X7_advance : CL := [(0, 4, 4)]
theorem fm_X7_advance_0_4_4 : (0, 4, 4) ∈ S_X7_advance := by decide
theorem fs_X7_advance_23__X7_advance : ∀ x ∈ S_X7_advance_23, x ∈ S_X7_advance := by decide
theorem w_f_X7_advance (h : HS) : pk (f_X7_advance h) (fun a => Fr S_X7_advance h a) := by
  unfold f_X7_advance
  refine pk_if (fun _ => ?_) (fun _ => ?_)
  · exact pk_mono (w_f_X7_advance_23 h) (fun _ k => Fr_trans (Fr_refl _ h) (Fr_mono fs_X7_advance_23__X7_advance k))
  · exact pk_mono (w_f_X7_advance_23 (sI h 4 4 ((eI h 4 4) + 1))) (fun _ k => Fr_trans (Fr_sI fm_X7_advance_0_4_4 (Fr_refl _ h)) (Fr_mono fs_X7_advance_23__X7_advance k))
def S_X7_add_76 : CL := []
theorem w_f_X7_add_76 (h : HS) : pk (f_X7_add_76 h) (fun a => Fr S_X7_add_76 h a) := by
  unfold f_X7_add_76
  exact pk_some (Fr_refl _ h)
def S_X7_add : CL := [(0, 4, 3), (1, 4, 0), (1, 4, 1), (1, 4, 2)]
theorem fm_X7_add_0_4_3 : (0, 4, 3) ∈ S_X7_add := by decide
theorem fm_X7_add_1_4_2 : (1, 4, 2) ∈ S_X7_add := by decide
theorem fm_X7_add_1_4_1 : (1, 4, 1) ∈ S_X7_add := by decide
theorem fm_X7_add_1_4_0 : (1, 4, 0) ∈ S_X7_add := by decide
theorem fs_X7_add_76__X7_add : ∀ x ∈ S_X7_add_76, x ∈ S_X7_add := by decide
theorem w_f_X7_add (h : HS) (p1 : Int32) (p2 : Int32) (p3 : Int32) : pk (f_X7_add h p1 p2 p3) (fun a => Fr S_X7_add h a) := by
  unfold f_X7_add
  refine pk_if (fun _ => ?_) (fun _ => ?_)
  · exact pk_mono (w_f_X7_add_76 h) (fun _ k => Fr_trans (Fr_refl _ h) (Fr_mono fs_X7_add_76__X7_add k))
  · refine pk_chk (fun _ => ?_)
    refine pk_chk (fun _ => ?_)
    refine pk_chk (fun _ => ?_)
    exact pk_mono (w_f_X7_add_76 (sI (sA (sA (sA h 4 0 (upd (eA h 4 0) (((eI h 4 3)).toNatClampNeg) p1)) 4 1 (upd (eA h 4 1) (((eI h 4 3)).toNatClampNeg) p2)) 4 2 (upd (eA h 4 2) (((eI h 4 3)).toNatClampNeg) p3)) 4 3 ((eI h 4 3) + 1))) (fun _ k => Fr_trans (Fr_sI fm_X7_add_0_4_3 (Fr_sA fm_X7_add_1_4_2 (Fr_sA fm_X7_add_1_4_1 (Fr_sA fm_X7_add_1_4_0 (Fr_refl _ h))))) (Fr_mono fs_X7_add_76__X7_add k))
def S_X7_splitNumber_52 : CL := [(0, 4, 3), (1, 4, 0), (1, 4, 1), (1, 4, 2)]
theorem fs_X7_add__X7_splitNumber_52 : ∀ x ∈ S_X7_add, x ∈ S_X7_splitNumber_52 := by decide
theorem w_f_X7_splitNumber_52 (h : HS) (x2 : Int32) (x3 : Int32) (x4 : Int32) : pk (f_X7_splitNumber_52 h x2 x3 x4) (fun a => Fr S_X7_splitNumber_52 h a.2) := by
  unfold f_X7_splitNumber_52
  refine pk_ob1 (w_f_X7_add h 2 x2 x4) (fun h_6 k_1 => ?_)
  replace k_1 := Fr_trans (Fr_refl _ h) (Fr_mono fs_X7_add__X7_splitNumber_52 k_1)
  exact pk_some k_1
def S_X7_splitNumber_5 : CL := [(0, 4, 3), (1, 4, 0), (1, 4, 1), (1, 4, 2)]
theorem fs_X7_splitNumber_52__X7_splitNumber_5 : ∀ x ∈ S_X7_splitNumber_52, x ∈ S_X7_splitNumber_5 := by decide
theorem fs_X5_byteAt__X7_splitNumber_5 : ∀ x ∈ S_X5_byteAt, x ∈ S_X7_splitNumber_5 := by decide
theorem w_f_X7_splitNumber_5  : ∀ (n : Nat) (h : HS) (x2 : Int32) (x3 : Int32) (x4 : Int32), pk (f_X7_splitNumber_5  n h x2 x3 x4) (fun a => Fr S_X7_splitNumber_5 h a.2) := by
  intro n
  induction n with
  | zero => intro h x2 x3 x4; exact pk_none
  | succ n ih =>
    intro h x2 x3 x4
    rw [f_X7_splitNumber_5_s]
    refine pk_if (fun _ => ?_) (fun _ => ?_)
    · exact pk_mono (w_f_X7_splitNumber_52 h x2 x3 x4) (fun _ k => Fr_trans (Fr_refl _ h) (Fr_mono fs_X7_splitNumber_52__X7_splitNumber_5 k))
    · refine pk_ob2 (w_f_X5_byteAt h x3) (fun r_2 h_2 k_1 => ?_)
      replace k_1 := Fr_trans (Fr_refl _ h) (Fr_mono fs_X5_byteAt__X7_splitNumber_5 k_1)
      refine pk_obf (fun r_3 => ?_)
      refine pk_if (fun _ => ?_) (fun _ => ?_)
      · exact pk_mono (w_f_X7_splitNumber_52 h_2 x2 x3 x4) (fun _ k => Fr_trans k_1 (Fr_mono fs_X7_splitNumber_52__X7_splitNumber_5 k))
      · refine pk_ob2 (w_f_X5_byteAt h_2 x3) (fun r_5 h_5 k_2 => ?_)
        replace k_2 := Fr_trans k_1 (Fr_mono fs_X5_byteAt__X7_splitNumber_5 k_2)
        exact pk_mono (ih h_5 x2 (x3 + 1) (if (((x4 * 10) + r_5) - 48) < 10000 then (((x4 * 10) + r_5) - 48) else 10000)) (fun _ k => Fr_trans k_2 k)
def S_X7_splitNumber : CL := [(0, 4, 3), (1, 4, 0), (1, 4, 1), (1, 4, 2)]
theorem fs_X7_splitNumber_5__X7_splitNumber : ∀ x ∈ S_X7_splitNumber_5, x ∈ S_X7_splitNumber := by decide
theorem w_f_X7_splitNumber (h : HS) (p1 : Int32) : pk (f_X7_splitNumber h p1) (fun a => Fr S_X7_splitNumber h a.2) := by
  unfold f_X7_splitNumber
  exact pk_mono (w_f_X7_splitNumber_5 8589934592 h p1 p1 0) (fun _ k => Fr_trans (Fr_refl _ h) (Fr_mono fs_X7_splitNumber_5__X7_splitNumber k))
def S_X7_splitSign_76 : CL := []
theorem w_f_X7_splitSign_76 (h : HS) (y0 : Int32) : pk (f_X7_splitSign_76 h y0) (fun a => Fr S_X7_splitSign_76 h a.2) := by
  unfold f_X7_splitSign_76
  exact pk_some (Fr_refl _ h)
def S_X7_splitSign_55 : CL := [(0, 4, 3), (1, 4, 0), (1, 4, 1), (1, 4, 2)]
theorem fs_X7_add__X7_splitSign_55 : ∀ x ∈ S_X7_add, x ∈ S_X7_splitSign_55 := by decide
theorem fs_X7_splitSign_76__X7_splitSign_55 : ∀ x ∈ S_X7_splitSign_76, x ∈ S_X7_splitSign_55 := by decide
theorem w_f_X7_splitSign_55 (h : HS) (x2 : Int32) (x3 : Int32) (x4 : Int32) : pk (f_X7_splitSign_55 h x2 x3 x4) (fun a => Fr S_X7_splitSign_55 h a.2) := by
  unfold f_X7_splitSign_55
  refine pk_ob1 (w_f_X7_add h x3 x2 0) (fun h_9 k_1 => ?_)
  replace k_1 := Fr_trans (Fr_refl _ h) (Fr_mono fs_X7_add__X7_splitSign_55 k_1)
  refine pk_if (fun _ => ?_) (fun _ => ?_)
  · exact pk_mono (w_f_X7_splitSign_76 h_9 (x2 + 1)) (fun _ k => Fr_trans k_1 (Fr_mono fs_X7_splitSign_76__X7_splitSign_55 k))
  · exact pk_mono (w_f_X7_splitSign_76 h_9 (x2 + 2)) (fun _ k => Fr_trans k_1 (Fr_mono fs_X7_splitSign_76__X7_splitSign_55 k))
def S_X7_splitSign_54 : CL := [(0, 4, 3), (1, 4, 0), (1, 4, 1), (1, 4, 2)]
theorem fs_X7_splitSign_55__X7_splitSign_54 : ∀ x ∈ S_X7_splitSign_55, x ∈ S_X7_splitSign_54 := by decide
theorem w_f_X7_splitSign_54 (h : HS) (x2 : Int32) (x4 : Int32) (y0 : Int32) : pk (f_X7_splitSign_54 h x2 x4 y0) (fun a => Fr S_X7_splitSign_54 h a.2) := by
  unfold f_X7_splitSign_54
  exact pk_mono (w_f_X7_splitSign_55 h x2 y0 x4) (fun _ k => Fr_trans (Fr_refl _ h) (Fr_mono fs_X7_splitSign_55__X7_splitSign_54 k))
def S_X7_splitSign_36 : CL := [(0, 4, 3), (1, 4, 0), (1, 4, 1), (1, 4, 2)]
theorem fs_X7_splitSign_55__X7_splitSign_36 : ∀ x ∈ S_X7_splitSign_55, x ∈ S_X7_splitSign_36 := by decide
theorem fs_X7_splitSign_54__X7_splitSign_36 : ∀ x ∈ S_X7_splitSign_54, x ∈ S_X7_splitSign_36 := by decide
theorem w_f_X7_splitSign_36 (h : HS) (x2 : Int32) (x3 : Int32) (y0 : Int32) : pk (f_X7_splitSign_36 h x2 x3 y0) (fun a => Fr S_X7_splitSign_36 h a.2) := by
  unfold f_X7_splitSign_36
  refine pk_if (fun _ => ?_) (fun _ => ?_)
  · exact pk_mono (w_f_X7_splitSign_55 h x2 x3 y0) (fun _ k => Fr_trans (Fr_refl _ h) (Fr_mono fs_X7_splitSign_55__X7_splitSign_36 k))
  · refine pk_if (fun _ => ?_) (fun _ => ?_)
    · exact pk_mono (w_f_X7_splitSign_54 h x2 y0 4) (fun _ k => Fr_trans (Fr_refl _ h) (Fr_mono fs_X7_splitSign_54__X7_splitSign_36 k))
    · exact pk_mono (w_f_X7_splitSign_54 h x2 y0 6) (fun _ k => Fr_trans (Fr_refl _ h) (Fr_mono fs_X7_splitSign_54__X7_splitSign_36 k))
def S_X7_splitSign_35 : CL := [(0, 4, 3), (1, 4, 0), (1, 4, 1), (1, 4, 2)]
theorem fs_X7_splitSign_36__X7_splitSign_35 : ∀ x ∈ S_X7_splitSign_36, x ∈ S_X7_splitSign_35 := by decide
theorem w_f_X7_splitSign_35 (h : HS) (x2 : Int32) (x3 : Int32) : pk (f_X7_splitSign_35 h x2 x3) (fun a => Fr S_X7_splitSign_35 h a.2) := by
  unfold f_X7_splitSign_35
  exact pk_mono (w_f_X7_splitSign_36 h x2 x3 0) (fun _ k => Fr_trans (Fr_refl _ h) (Fr_mono fs_X7_splitSign_36__X7_splitSign_35 k))
def S_X7_splitSign_19 : CL := [(0, 4, 3), (1, 4, 0), (1, 4, 1), (1, 4, 2)]
theorem fs_X5_byteAt__X7_splitSign_19 : ∀ x ∈ S_X5_byteAt, x ∈ S_X7_splitSign_19 := by decide
theorem fs_X7_splitSign_36__X7_splitSign_19 : ∀ x ∈ S_X7_splitSign_36, x ∈ S_X7_splitSign_19 := by decide
theorem fs_X7_splitSign_35__X7_splitSign_19 : ∀ x ∈ S_X7_splitSign_35, x ∈ S_X7_splitSign_19 := by decide
theorem w_f_X7_splitSign_19 (h : HS) (x2 : Int32) (x3 : Int32) : pk (f_X7_splitSign_19 h x2 x3) (fun a => Fr S_X7_splitSign_19 h a.2) := by
  unfold f_X7_splitSign_19
  refine pk_ob2 (w_f_X5_byteAt h (x2 + 1)) (fun r_5 h_5 k_1 => ?_)
  replace k_1 := Fr_trans (Fr_refl _ h) (Fr_mono fs_X5_byteAt__X7_splitSign_19 k_1)
  refine pk_if (fun _ => ?_) (fun _ => ?_)
  · exact pk_mono (w_f_X7_splitSign_36 h_5 x2 x3 1) (fun _ k => Fr_trans k_1 (Fr_mono fs_X7_splitSign_36__X7_splitSign_19 k))
  · exact pk_mono (w_f_X7_splitSign_35 h_5 x2 x3) (fun _ k => Fr_trans k_1 (Fr_mono fs_X7_splitSign_35__X7_splitSign_19 k))
def S_X7_splitSign : CL := [(0, 4, 3), (1, 4, 0), (1, 4, 1), (1, 4, 2)]
theorem fs_X5_byteAt__X7_splitSign : ∀ x ∈ S_X5_byteAt, x ∈ S_X7_splitSign := by decide
theorem fs_X7_splitSign_19__X7_splitSign : ∀ x ∈ S_X7_splitSign_19, x ∈ S_X7_splitSign := by decide
theorem fs_X7_splitSign_35__X7_splitSign : ∀ x ∈ S_X7_splitSign_35, x ∈ S_X7_splitSign := by decide
theorem w_f_X7_splitSign (h : HS) (p1 : Int32) : pk (f_X7_splitSign h p1) (fun a => Fr S_X7_splitSign h a.2) := by
  unfold f_X7_splitSign
  refine pk_ob2 (w_f_X5_byteAt h p1) (fun r_1 h_1 k_1 => ?_)
  replace k_1 := Fr_trans (Fr_refl _ h) (Fr_mono fs_X5_byteAt__X7_splitSign k_1)
  refine pk_obf (fun r_2 => ?_)
  refine pk_if (fun _ => ?_) (fun _ => ?_)
  · exact pk_mono (w_f_X7_splitSign_19 h_1 p1 r_2) (fun _ k => Fr_trans k_1 (Fr_mono fs_X7_splitSign_19__X7_splitSign k))
  · refine pk_if (fun _ => ?_) (fun _ => ?_)
    · exact pk_mono (w_f_X7_splitSign_19 h_1 p1 r_2) (fun _ k => Fr_trans k_1 (Fr_mono fs_X7_splitSign_19__X7_splitSign k))
    · exact pk_mono (w_f_X7_splitSign_35 h_1 p1 r_2) (fun _ k => Fr_trans k_1 (Fr_mono fs_X7_splitSign_35__X7_splitSign k))
def S_X1_push_66 : CL := []
theorem w_f_X1_push_66 (h : HS) : pk (f_X1_push_66 h) (fun a => Fr S_X1_push_66 h a) := by
  unfold f_X1_push_66
  exact pk_some (Fr_refl _ h)
def S_X1_push_55 : CL := [(0, 6, 3), (1, 6, 2)]
theorem fm_X1_push_55_0_6_3 : (0, 6, 3) ∈ S_X1_push_55 := by decide
theorem fm_X1_push_55_1_6_2 : (1, 6, 2) ∈ S_X1_push_55 := by decide
theorem fs_X1_push_66__X1_push_55 : ∀ x ∈ S_X1_push_66, x ∈ S_X1_push_55 := by decide
theorem w_f_X1_push_55 (h : HS) (y0 : Int32) (y1 : Int32) : pk (f_X1_push_55 h y0 y1) (fun a => Fr S_X1_push_55 h a) := by
  unfold f_X1_push_55
  refine pk_chk (fun _ => ?_)
  exact pk_mono (w_f_X1_push_66 (sI (sA h 6 2 (upd (eA h 6 2) ((y1).toNatClampNeg) y0)) 6 3 ((eI h 6 3) + 1))) (fun _ k => Fr_trans (Fr_sI fm_X1_push_55_0_6_3 (Fr_sA fm_X1_push_55_1_6_2 (Fr_refl _ h))) (Fr_mono fs_X1_push_66__X1_push_55 k))
def S_X1_push : CL := [(0, 6, 3), (1, 6, 2)]
theorem fs_X1_push_66__X1_push : ∀ x ∈ S_X1_push_66, x ∈ S_X1_push := by decide
theorem fs_X1_push_55__X1_push : ∀ x ∈ S_X1_push_55, x ∈ S_X1_push := by decide
theorem w_f_X1_push (h : HS) (p1 : Int64) : pk (f_X1_push h p1) (fun a => Fr S_X1_push h a) := by
  unfold f_X1_push
  refine pk_if (fun _ => ?_) (fun _ => ?_)
  · exact pk_mono (w_f_X1_push_66 h) (fun _ k => Fr_trans (Fr_refl _ h) (Fr_mono fs_X1_push_66__X1_push k))
  · refine pk_if (fun _ => ?_) (fun _ => ?_)
    · exact pk_mono (w_f_X1_push_66 h) (fun _ k => Fr_trans (Fr_refl _ h) (Fr_mono fs_X1_push_66__X1_push k))
    · refine pk_if (fun _ => ?_) (fun _ => ?_)
      · refine pk_if (fun _ => ?_) (fun _ => ?_)
        · exact pk_mono (w_f_X1_push_55 h ((p1).toInt32) (eI h 6 3)) (fun _ k => Fr_trans (Fr_refl _ h) (Fr_mono fs_X1_push_55__X1_push k))
        · exact pk_mono (w_f_X1_push_55 h (-1000000) (eI h 6 3)) (fun _ k => Fr_trans (Fr_refl _ h) (Fr_mono fs_X1_push_55__X1_push k))
      · exact pk_mono (w_f_X1_push_55 h 1000000 (eI h 6 3)) (fun _ k => Fr_trans (Fr_refl _ h) (Fr_mono fs_X1_push_55__X1_push k))
def S_X1_pop_20 : CL := []
theorem w_f_X1_pop_20 (h : HS) : pk (f_X1_pop_20 h) (fun a => Fr S_X1_pop_20 h a.2) := by
  unfold f_X1_pop_20
  exact pk_some (Fr_refl _ h)
def S_X1_pop : CL := [(0, 6, 3)]
theorem fm_X1_pop_0_6_3 : (0, 6, 3) ∈ S_X1_pop := by decide
theorem fs_X1_pop_20__X1_pop : ∀ x ∈ S_X1_pop_20, x ∈ S_X1_pop := by decide
theorem w_f_X1_pop (h : HS) : pk (f_X1_pop h) (fun a => Fr S_X1_pop h a.2) := by
  unfold f_X1_pop
  refine pk_if (fun _ => ?_) (fun _ => ?_)
  · exact pk_mono (w_f_X1_pop_20 h) (fun _ k => Fr_trans (Fr_refl _ h) (Fr_mono fs_X1_pop_20__X1_pop k))
  · refine pk_if (fun _ => ?_) (fun _ => ?_)
    · refine pk_chk (fun _ => ?_)
      exact pk_some (Fr_sI fm_X1_pop_0_6_3 (Fr_refl _ h))
    · exact pk_mono (w_f_X1_pop_20 h) (fun _ k => Fr_trans (Fr_refl _ h) (Fr_mono fs_X1_pop_20__X1_pop k))
def S_X1_take_128 : CL := []
theorem w_f_X1_take_128 (h : HS) : pk (f_X1_take_128 h) (fun a => Fr S_X1_take_128 h a) := by
  unfold f_X1_take_128
  exact pk_some (Fr_refl _ h)
def S_X1_take_47 : CL := [(0, 6, 3), (1, 6, 2)]
theorem fs_X1_push__X1_take_47 : ∀ x ∈ S_X1_push, x ∈ S_X1_take_47 := by decide
theorem fs_X1_take_128__X1_take_47 : ∀ x ∈ S_X1_take_128, x ∈ S_X1_take_47 := by decide
theorem w_f_X1_take_47 (h : HS) (y0 : Int64) : pk (f_X1_take_47 h y0) (fun a => Fr S_X1_take_47 h a) := by
  unfold f_X1_take_47
  refine pk_ob1 (w_f_X1_push h y0) (fun h_14 k_1 => ?_)
  replace k_1 := Fr_trans (Fr_refl _ h) (Fr_mono fs_X1_push__X1_take_47 k_1)
  exact pk_mono (w_f_X1_take_128 h_14) (fun _ k => Fr_trans k_1 (Fr_mono fs_X1_take_128__X1_take_47 k))
def S_X1_take : CL := [(0, 6, 3), (1, 6, 2)]
theorem fs_X1_pop__X1_take : ∀ x ∈ S_X1_pop, x ∈ S_X1_take := by decide
theorem fs_X1_push__X1_take : ∀ x ∈ S_X1_push, x ∈ S_X1_take := by decide
theorem fs_X1_take_128__X1_take : ∀ x ∈ S_X1_take_128, x ∈ S_X1_take := by decide
theorem fs_X1_take_47__X1_take : ∀ x ∈ S_X1_take_47, x ∈ S_X1_take := by decide
theorem w_f_X1_take (h : HS) (p1 : Int32) : pk (f_X1_take h p1) (fun a => Fr S_X1_take h a) := by
  unfold f_X1_take
  refine pk_if (fun _ => ?_) (fun _ => ?_)
  · refine pk_if (fun _ => ?_) (fun _ => ?_)
    · refine pk_ob2 (w_f_X1_pop h) (fun r_3 h_3 k_1 => ?_)
      replace k_1 := Fr_trans (Fr_refl _ h) (Fr_mono fs_X1_pop__X1_take k_1)
      refine pk_if (fun _ => ?_) (fun _ => ?_)
      · refine pk_ob1 (w_f_X1_push h_3 (((1 - r_3)).toInt64)) (fun h_5 k_2 => ?_)
        replace k_2 := Fr_trans k_1 (Fr_mono fs_X1_push__X1_take k_2)
        exact pk_mono (w_f_X1_take_128 h_5) (fun _ k => Fr_trans k_2 (Fr_mono fs_X1_take_128__X1_take k))
      · refine pk_if (fun _ => ?_) (fun _ => ?_)
        · refine pk_ob1 (w_f_X1_push h_3 (((-r_3)).toInt64)) (fun h_7 k_3 => ?_)
          replace k_3 := Fr_trans k_1 (Fr_mono fs_X1_push__X1_take k_3)
          exact pk_mono (w_f_X1_take_128 h_7) (fun _ k => Fr_trans k_3 (Fr_mono fs_X1_take_128__X1_take k))
        · refine pk_ob2 (w_f_X1_pop h_3) (fun r_8 h_8 k_4 => ?_)
          replace k_4 := Fr_trans k_1 (Fr_mono fs_X1_pop__X1_take k_4)
          refine pk_obf (fun r_9 => ?_)
          refine pk_ob1 (w_f_X1_push h_8 r_9) (fun h_10 k_5 => ?_)
          replace k_5 := Fr_trans k_4 (Fr_mono fs_X1_push__X1_take k_5)
          exact pk_mono (w_f_X1_take_128 h_10) (fun _ k => Fr_trans k_5 (Fr_mono fs_X1_take_128__X1_take k))
    · refine pk_if (fun _ => ?_) (fun _ => ?_)
      · exact pk_mono (w_f_X1_take_47 h 0) (fun _ k => Fr_trans (Fr_refl _ h) (Fr_mono fs_X1_take_47__X1_take k))
      · refine pk_chk (fun _ => ?_)
        exact pk_mono (w_f_X1_take_47 h ((((eA h 6 1) (((p1 - 10000)).toNatClampNeg))).toInt64)) (fun _ k => Fr_trans (Fr_refl _ h) (Fr_mono fs_X1_take_47__X1_take k))
  · refine pk_ob1 (w_f_X1_push h ((p1).toInt64)) (fun h_13 k_6 => ?_)
    replace k_6 := Fr_trans (Fr_refl _ h) (Fr_mono fs_X1_push__X1_take k_6)
    exact pk_mono (w_f_X1_take_128 h_13) (fun _ k => Fr_trans k_6 (Fr_mono fs_X1_take_128__X1_take k))
def S_X1_without : CL := []
theorem w_f_X1_without (h : HS) (p1 : Int32) : pk (f_X1_without h p1) (fun a => Fr S_X1_without h a.2) := by
  unfold f_X1_without
  refine pk_if (fun _ => ?_) (fun _ => ?_)
  · exact pk_some (Fr_refl _ h)
  · refine pk_if (fun _ => ?_) (fun _ => ?_)
    · exact pk_some (Fr_refl _ h)
    · exact pk_some (Fr_refl _ h)
def S_X1_lookAt : CL := [(1, 6, 1)]
theorem fm_X1_lookAt_1_6_1 : (1, 6, 1) ∈ S_X1_lookAt := by decide
theorem fs_X4_ofGoose__X1_lookAt : ∀ x ∈ S_X4_ofGoose, x ∈ S_X1_lookAt := by decide
theorem w_f_X1_lookAt (h : HS) (p1 : Int32) : pk (f_X1_lookAt h p1) (fun a => Fr S_X1_lookAt h a) := by
  unfold f_X1_lookAt
  refine pk_ob2 (w_f_X4_ofGoose (sA h 6 1 (upd (eA h 6 1) 0 p1)) p1 0) (fun r_1 h_1 k_1 => ?_)
  replace k_1 := Fr_trans (Fr_sA fm_X1_lookAt_1_6_1 (Fr_refl _ h)) (Fr_mono fs_X4_ofGoose__X1_lookAt k_1)
  refine pk_ob2 (w_f_X4_ofGoose (sA h_1 6 1 (upd (eA h_1 6 1) 1 r_1)) p1 1) (fun r_2 h_2 k_2 => ?_)
  replace k_2 := Fr_trans (Fr_sA fm_X1_lookAt_1_6_1 k_1) (Fr_mono fs_X4_ofGoose__X1_lookAt k_2)
  refine pk_ob2 (w_f_X4_ofGoose (sA h_2 6 1 (upd (eA h_2 6 1) 2 r_2)) p1 2) (fun r_3 h_3 k_3 => ?_)
  replace k_3 := Fr_trans (Fr_sA fm_X1_lookAt_1_6_1 k_2) (Fr_mono fs_X4_ofGoose__X1_lookAt k_3)
  refine pk_ob2 (w_f_X4_ofGoose (sA h_3 6 1 (upd (eA h_3 6 1) 3 r_3)) p1 3) (fun r_4 h_4 k_4 => ?_)
  replace k_4 := Fr_trans (Fr_sA fm_X1_lookAt_1_6_1 k_3) (Fr_mono fs_X4_ofGoose__X1_lookAt k_4)
  exact pk_some (Fr_sA fm_X1_lookAt_1_6_1 (Fr_sA fm_X1_lookAt_1_6_1 k_4))
def S_X1_lookAtFilled : CL := [(1, 6, 1)]
theorem fm_X1_lookAtFilled_1_6_1 : (1, 6, 1) ∈ S_X1_lookAtFilled := by decide
theorem fs_X1_lookAt__X1_lookAtFilled : ∀ x ∈ S_X1_lookAt, x ∈ S_X1_lookAtFilled := by decide
theorem w_f_X1_lookAtFilled (h : HS) (p1 : Int32) (p2 : Int32) (p3 : Int32) : pk (f_X1_lookAtFilled h p1 p2 p3) (fun a => Fr S_X1_lookAtFilled h a) := by
  unfold f_X1_lookAtFilled
  refine pk_ob1 (w_f_X1_lookAt h p1) (fun h_1 k_1 => ?_)
  replace k_1 := Fr_trans (Fr_refl _ h) (Fr_mono fs_X1_lookAt__X1_lookAtFilled k_1)
  exact pk_some (Fr_sA fm_X1_lookAtFilled_1_6_1 (Fr_sA fm_X1_lookAtFilled_1_6_1 k_1))
def S_X1_lookAtMarket : CL := [(1, 6, 1)]
theorem fm_X1_lookAtMarket_1_6_1 : (1, 6, 1) ∈ S_X1_lookAtMarket := by decide
theorem fs_X4_ofMarket__X1_lookAtMarket : ∀ x ∈ S_X4_ofMarket, x ∈ S_X1_lookAtMarket := by decide
theorem w_f_X1_lookAtMarket (h : HS) (p1 : Int32) (p2 : Int32) : pk (f_X1_lookAtMarket h p1 p2) (fun a => Fr S_X1_lookAtMarket h a) := by
  unfold f_X1_lookAtMarket
  refine pk_ob2 (w_f_X4_ofMarket (sA (sA h 6 1 (upd (eA h 6 1) 5 p2)) 6 1 (upd (upd (eA h 6 1) 5 p2) 6 p1)) p1 1) (fun r_1 h_1 k_1 => ?_)
  replace k_1 := Fr_trans (Fr_sA fm_X1_lookAtMarket_1_6_1 (Fr_sA fm_X1_lookAtMarket_1_6_1 (Fr_refl _ h))) (Fr_mono fs_X4_ofMarket__X1_lookAtMarket k_1)
  refine pk_ob2 (w_f_X4_ofMarket (sA h_1 6 1 (upd (eA h_1 6 1) 7 r_1)) p1 2) (fun r_2 h_2 k_2 => ?_)
  replace k_2 := Fr_trans (Fr_sA fm_X1_lookAtMarket_1_6_1 k_1) (Fr_mono fs_X4_ofMarket__X1_lookAtMarket k_2)
  exact pk_some (Fr_sA fm_X1_lookAtMarket_1_6_1 k_2)
def S_X1_lookAtTraveller : CL := [(1, 6, 1)]
theorem fs_X1_lookAt__X1_lookAtTraveller : ∀ x ∈ S_X1_lookAt, x ∈ S_X1_lookAtTraveller := by decide
theorem fs_X4_ofGoose__X1_lookAtTraveller : ∀ x ∈ S_X4_ofGoose, x ∈ S_X1_lookAtTraveller := by decide
theorem fs_X1_lookAtMarket__X1_lookAtTraveller : ∀ x ∈ S_X1_lookAtMarket, x ∈ S_X1_lookAtTraveller := by decide
theorem w_f_X1_lookAtTraveller (h : HS) (p1 : Int32) : pk (f_X1_lookAtTraveller h p1) (fun a => Fr S_X1_lookAtTraveller h a) := by
  unfold f_X1_lookAtTraveller
  refine pk_ob1 (w_f_X1_lookAt h p1) (fun h_1 k_1 => ?_)
  replace k_1 := Fr_trans (Fr_refl _ h) (Fr_mono fs_X1_lookAt__X1_lookAtTraveller k_1)
  refine pk_ob2 (w_f_X4_ofGoose h_1 p1 5) (fun r_2 h_2 k_2 => ?_)
  replace k_2 := Fr_trans k_1 (Fr_mono fs_X4_ofGoose__X1_lookAtTraveller k_2)
  refine pk_ob2 (w_f_X4_ofGoose h_2 p1 6) (fun r_3 h_3 k_3 => ?_)
  replace k_3 := Fr_trans k_2 (Fr_mono fs_X4_ofGoose__X1_lookAtTraveller k_3)
  refine pk_ob1 (w_f_X1_lookAtMarket h_3 r_2 r_3) (fun h_4 k_4 => ?_)
  replace k_4 := Fr_trans k_3 (Fr_mono fs_X1_lookAtMarket__X1_lookAtTraveller k_4)
  exact pk_some k_4
def S_X6_clear_0_12 : CL := [(1, 9, 3), (1, 9, 4)]
theorem fm_X6_clear_0_12_1_9_4 : (1, 9, 4) ∈ S_X6_clear_0_12 := by decide
theorem fm_X6_clear_0_12_1_9_3 : (1, 9, 3) ∈ S_X6_clear_0_12 := by decide
theorem w_f_X6_clear_0_12  : ∀ (n : Nat) (h : HS) (x1 : Int32), pk (f_X6_clear_0_12  n h x1) (fun a => Fr S_X6_clear_0_12 h a) := by
  intro n
  induction n with
  | zero => intro h x1; exact pk_none
  | succ n ih =>
    intro h x1
    rw [f_X6_clear_0_12_s]
    refine pk_if (fun _ => ?_) (fun _ => ?_)
    · exact pk_some (Fr_refl _ h)
    · refine pk_chk (fun _ => ?_)
      refine pk_chk (fun _ => ?_)
      exact pk_mono (ih (sA (sA h 9 3 (upd (eA h 9 3) ((x1).toNatClampNeg) (-1))) 9 4 (upd (eA h 9 4) ((x1).toNatClampNeg) (-1))) (x1 + 1)) (fun _ k => Fr_trans (Fr_sA fm_X6_clear_0_12_1_9_4 (Fr_sA fm_X6_clear_0_12_1_9_3 (Fr_refl _ h))) k)
def S_X6_clear_0 : CL := [(0, 9, 1), (0, 9, 5), (1, 9, 3), (1, 9, 4)]
theorem fm_X6_clear_0_0_9_5 : (0, 9, 5) ∈ S_X6_clear_0 := by decide
theorem fm_X6_clear_0_0_9_1 : (0, 9, 1) ∈ S_X6_clear_0 := by decide
theorem fs_X6_clear_0_12__X6_clear_0 : ∀ x ∈ S_X6_clear_0_12, x ∈ S_X6_clear_0 := by decide
theorem w_f_X6_clear_0 (h : HS) : pk (f_X6_clear_0 h) (fun a => Fr S_X6_clear_0 h a) := by
  unfold f_X6_clear_0
  exact pk_mono (w_f_X6_clear_0_12 8589934592 (sI (sI h 9 1 0) 9 5 0) 0) (fun _ k => Fr_trans (Fr_sI fm_X6_clear_0_0_9_5 (Fr_sI fm_X6_clear_0_0_9_1 (Fr_refl _ h))) (Fr_mono fs_X6_clear_0_12__X6_clear_0 k))
def S_X6_hasLaw_0_24 : CL := []
theorem w_f_X6_hasLaw_0_24 (h : HS) (y0 : Int32) : pk (f_X6_hasLaw_0_24 h y0) (fun a => Fr S_X6_hasLaw_0_24 h a.2) := by
  unfold f_X6_hasLaw_0_24
  refine pk_chk (fun _ => ?_)
  exact pk_some (Fr_refl _ h)
def S_X6_hasLaw_0_23 : CL := []
theorem fs_X6_hasLaw_0_24__X6_hasLaw_0_23 : ∀ x ∈ S_X6_hasLaw_0_24, x ∈ S_X6_hasLaw_0_23 := by decide
theorem w_f_X6_hasLaw_0_23 (h : HS) : pk (f_X6_hasLaw_0_23 h) (fun a => Fr S_X6_hasLaw_0_23 h a.2) := by
  unfold f_X6_hasLaw_0_23
  exact pk_mono (w_f_X6_hasLaw_0_24 h 0) (fun _ k => Fr_trans (Fr_refl _ h) (Fr_mono fs_X6_hasLaw_0_24__X6_hasLaw_0_23 k))
def S_X6_hasLaw_0 : CL := []
theorem fs_X6_hasLaw_0_23__X6_hasLaw_0 : ∀ x ∈ S_X6_hasLaw_0_23, x ∈ S_X6_hasLaw_0 := by decide
theorem fs_X6_hasLaw_0_24__X6_hasLaw_0 : ∀ x ∈ S_X6_hasLaw_0_24, x ∈ S_X6_hasLaw_0 := by decide
theorem w_f_X6_hasLaw_0 (h : HS) (p1 : Int32) : pk (f_X6_hasLaw_0 h p1) (fun a => Fr S_X6_hasLaw_0 h a.2) := by
  unfold f_X6_hasLaw_0
  refine pk_if (fun _ => ?_) (fun _ => ?_)
  · exact pk_mono (w_f_X6_hasLaw_0_23 h) (fun _ k => Fr_trans (Fr_refl _ h) (Fr_mono fs_X6_hasLaw_0_23__X6_hasLaw_0 k))
  · refine pk_if (fun _ => ?_) (fun _ => ?_)
    · exact pk_mono (w_f_X6_hasLaw_0_23 h) (fun _ k => Fr_trans (Fr_refl _ h) (Fr_mono fs_X6_hasLaw_0_23__X6_hasLaw_0 k))
    · refine pk_chk (fun _ => ?_)
      refine pk_if (fun _ => ?_) (fun _ => ?_)
      · exact pk_mono (w_f_X6_hasLaw_0_23 h) (fun _ k => Fr_trans (Fr_refl _ h) (Fr_mono fs_X6_hasLaw_0_23__X6_hasLaw_0 k))
      · exact pk_mono (w_f_X6_hasLaw_0_24 h 1) (fun _ k => Fr_trans (Fr_refl _ h) (Fr_mono fs_X6_hasLaw_0_24__X6_hasLaw_0 k))
def S_X6_beginLaw_0_19 : CL := []
theorem w_f_X6_beginLaw_0_19 (h : HS) : pk (f_X6_beginLaw_0_19 h) (fun a => Fr S_X6_beginLaw_0_19 h a) := by
  unfold f_X6_beginLaw_0_19
  exact pk_some (Fr_refl _ h)
def S_X6_beginLaw_0 : CL := [(1, 9, 3)]
theorem fm_X6_beginLaw_0_1_9_3 : (1, 9, 3) ∈ S_X6_beginLaw_0 := by decide
theorem fs_X6_beginLaw_0_19__X6_beginLaw_0 : ∀ x ∈ S_X6_beginLaw_0_19, x ∈ S_X6_beginLaw_0 := by decide
theorem w_f_X6_beginLaw_0 (h : HS) (p1 : Int32) : pk (f_X6_beginLaw_0 h p1) (fun a => Fr S_X6_beginLaw_0 h a) := by
  unfold f_X6_beginLaw_0
  refine pk_if (fun _ => ?_) (fun _ => ?_)
  · exact pk_mono (w_f_X6_beginLaw_0_19 h) (fun _ k => Fr_trans (Fr_refl _ h) (Fr_mono fs_X6_beginLaw_0_19__X6_beginLaw_0 k))
  · refine pk_if (fun _ => ?_) (fun _ => ?_)
    · exact pk_mono (w_f_X6_beginLaw_0_19 h) (fun _ k => Fr_trans (Fr_refl _ h) (Fr_mono fs_X6_beginLaw_0_19__X6_beginLaw_0 k))
    · refine pk_chk (fun _ => ?_)
      exact pk_mono (w_f_X6_beginLaw_0_19 (sA h 9 3 (upd (eA h 9 3) ((p1).toNatClampNeg) (eI h 9 5)))) (fun _ k => Fr_trans (Fr_sA fm_X6_beginLaw_0_1_9_3 (Fr_refl _ h)) (Fr_mono fs_X6_beginLaw_0_19__X6_beginLaw_0 k))
def S_X6_closeLaw_0_19 : CL := []
theorem w_f_X6_closeLaw_0_19 (h : HS) : pk (f_X6_closeLaw_0_19 h) (fun a => Fr S_X6_closeLaw_0_19 h a) := by
  unfold f_X6_closeLaw_0_19
  exact pk_some (Fr_refl _ h)
def S_X6_closeLaw_0 : CL := [(1, 9, 4)]
theorem fm_X6_closeLaw_0_1_9_4 : (1, 9, 4) ∈ S_X6_closeLaw_0 := by decide
theorem fs_X6_closeLaw_0_19__X6_closeLaw_0 : ∀ x ∈ S_X6_closeLaw_0_19, x ∈ S_X6_closeLaw_0 := by decide
theorem w_f_X6_closeLaw_0 (h : HS) (p1 : Int32) : pk (f_X6_closeLaw_0 h p1) (fun a => Fr S_X6_closeLaw_0 h a) := by
  unfold f_X6_closeLaw_0
  refine pk_if (fun _ => ?_) (fun _ => ?_)
  · exact pk_mono (w_f_X6_closeLaw_0_19 h) (fun _ k => Fr_trans (Fr_refl _ h) (Fr_mono fs_X6_closeLaw_0_19__X6_closeLaw_0 k))
  · refine pk_if (fun _ => ?_) (fun _ => ?_)
    · exact pk_mono (w_f_X6_closeLaw_0_19 h) (fun _ k => Fr_trans (Fr_refl _ h) (Fr_mono fs_X6_closeLaw_0_19__X6_closeLaw_0 k))
    · refine pk_chk (fun _ => ?_)
      exact pk_mono (w_f_X6_closeLaw_0_19 (sA h 9 4 (upd (eA h 9 4) ((p1).toNatClampNeg) (eI h 9 5)))) (fun _ k => Fr_trans (Fr_sA fm_X6_closeLaw_0_1_9_4 (Fr_refl _ h)) (Fr_mono fs_X6_closeLaw_0_19__X6_closeLaw_0 k))
def S_X6_firstStep_0_19 : CL := []
theorem w_f_X6_firstStep_0_19 (h : HS) (y0 : Int32) : pk (f_X6_firstStep_0_19 h y0) (fun a => Fr S_X6_firstStep_0_19 h a.2) := by
  unfold f_X6_firstStep_0_19
  exact pk_some (Fr_refl _ h)
def S_X6_firstStep_0_18 : CL := []
theorem fs_X6_firstStep_0_19__X6_firstStep_0_18 : ∀ x ∈ S_X6_firstStep_0_19, x ∈ S_X6_firstStep_0_18 := by decide
theorem w_f_X6_firstStep_0_18 (h : HS) : pk (f_X6_firstStep_0_18 h) (fun a => Fr S_X6_firstStep_0_18 h a.2) := by
  unfold f_X6_firstStep_0_18
  exact pk_mono (w_f_X6_firstStep_0_19 h 0) (fun _ k => Fr_trans (Fr_refl _ h) (Fr_mono fs_X6_firstStep_0_19__X6_firstStep_0_18 k))
def S_X6_firstStep_0 : CL := []
theorem fs_X6_firstStep_0_18__X6_firstStep_0 : ∀ x ∈ S_X6_firstStep_0_18, x ∈ S_X6_firstStep_0 := by decide
theorem fs_X6_firstStep_0_19__X6_firstStep_0 : ∀ x ∈ S_X6_firstStep_0_19, x ∈ S_X6_firstStep_0 := by decide
theorem w_f_X6_firstStep_0 (h : HS) (p1 : Int32) : pk (f_X6_firstStep_0 h p1) (fun a => Fr S_X6_firstStep_0 h a.2) := by
  unfold f_X6_firstStep_0
  refine pk_if (fun _ => ?_) (fun _ => ?_)
  · exact pk_mono (w_f_X6_firstStep_0_18 h) (fun _ k => Fr_trans (Fr_refl _ h) (Fr_mono fs_X6_firstStep_0_18__X6_firstStep_0 k))
  · refine pk_if (fun _ => ?_) (fun _ => ?_)
    · exact pk_mono (w_f_X6_firstStep_0_18 h) (fun _ k => Fr_trans (Fr_refl _ h) (Fr_mono fs_X6_firstStep_0_18__X6_firstStep_0 k))
    · refine pk_chk (fun _ => ?_)
      exact pk_mono (w_f_X6_firstStep_0_19 h ((eA h 9 3) ((p1).toNatClampNeg))) (fun _ k => Fr_trans (Fr_refl _ h) (Fr_mono fs_X6_firstStep_0_19__X6_firstStep_0 k))
def S_X6_stepsEnd_0_19 : CL := []
theorem w_f_X6_stepsEnd_0_19 (h : HS) (y0 : Int32) : pk (f_X6_stepsEnd_0_19 h y0) (fun a => Fr S_X6_stepsEnd_0_19 h a.2) := by
  unfold f_X6_stepsEnd_0_19
  exact pk_some (Fr_refl _ h)
def S_X6_stepsEnd_0_18 : CL := []
theorem fs_X6_stepsEnd_0_19__X6_stepsEnd_0_18 : ∀ x ∈ S_X6_stepsEnd_0_19, x ∈ S_X6_stepsEnd_0_18 := by decide
theorem w_f_X6_stepsEnd_0_18 (h : HS) : pk (f_X6_stepsEnd_0_18 h) (fun a => Fr S_X6_stepsEnd_0_18 h a.2) := by
  unfold f_X6_stepsEnd_0_18
  exact pk_mono (w_f_X6_stepsEnd_0_19 h 0) (fun _ k => Fr_trans (Fr_refl _ h) (Fr_mono fs_X6_stepsEnd_0_19__X6_stepsEnd_0_18 k))
def S_X6_stepsEnd_0 : CL := []
theorem fs_X6_stepsEnd_0_18__X6_stepsEnd_0 : ∀ x ∈ S_X6_stepsEnd_0_18, x ∈ S_X6_stepsEnd_0 := by decide
theorem fs_X6_stepsEnd_0_19__X6_stepsEnd_0 : ∀ x ∈ S_X6_stepsEnd_0_19, x ∈ S_X6_stepsEnd_0 := by decide
theorem w_f_X6_stepsEnd_0 (h : HS) (p1 : Int32) : pk (f_X6_stepsEnd_0 h p1) (fun a => Fr S_X6_stepsEnd_0 h a.2) := by
  unfold f_X6_stepsEnd_0
  refine pk_if (fun _ => ?_) (fun _ => ?_)
  · exact pk_mono (w_f_X6_stepsEnd_0_18 h) (fun _ k => Fr_trans (Fr_refl _ h) (Fr_mono fs_X6_stepsEnd_0_18__X6_stepsEnd_0 k))
  · refine pk_if (fun _ => ?_) (fun _ => ?_)
    · exact pk_mono (w_f_X6_stepsEnd_0_18 h) (fun _ k => Fr_trans (Fr_refl _ h) (Fr_mono fs_X6_stepsEnd_0_18__X6_stepsEnd_0 k))
    · refine pk_chk (fun _ => ?_)
      exact pk_mono (w_f_X6_stepsEnd_0_19 h ((eA h 9 4) ((p1).toNatClampNeg))) (fun _ k => Fr_trans (Fr_refl _ h) (Fr_mono fs_X6_stepsEnd_0_19__X6_stepsEnd_0 k))
def S_X6_addStep_0_32 : CL := []
theorem w_f_X6_addStep_0_32 (h : HS) : pk (f_X6_addStep_0_32 h) (fun a => Fr S_X6_addStep_0_32 h a) := by
  unfold f_X6_addStep_0_32
  exact pk_some (Fr_refl _ h)
def S_X6_addStep_0 : CL := [(0, 9, 5), (1, 9, 2)]
theorem fm_X6_addStep_0_0_9_5 : (0, 9, 5) ∈ S_X6_addStep_0 := by decide
theorem fm_X6_addStep_0_1_9_2 : (1, 9, 2) ∈ S_X6_addStep_0 := by decide
theorem fs_X6_addStep_0_32__X6_addStep_0 : ∀ x ∈ S_X6_addStep_0_32, x ∈ S_X6_addStep_0 := by decide
theorem w_f_X6_addStep_0 (h : HS) (p1 : Int32) : pk (f_X6_addStep_0 h p1) (fun a => Fr S_X6_addStep_0 h a) := by
  unfold f_X6_addStep_0
  refine pk_if (fun _ => ?_) (fun _ => ?_)
  · exact pk_mono (w_f_X6_addStep_0_32 h) (fun _ k => Fr_trans (Fr_refl _ h) (Fr_mono fs_X6_addStep_0_32__X6_addStep_0 k))
  · refine pk_chk (fun _ => ?_)
    exact pk_mono (w_f_X6_addStep_0_32 (sI (sA h 9 2 (upd (eA h 9 2) (((eI h 9 5)).toNatClampNeg) p1)) 9 5 ((eI h 9 5) + 1))) (fun _ k => Fr_trans (Fr_sI fm_X6_addStep_0_0_9_5 (Fr_sA fm_X6_addStep_0_1_9_2 (Fr_refl _ h))) (Fr_mono fs_X6_addStep_0_32__X6_addStep_0 k))
def S_X6_stepAt_0_31 : CL := []
theorem w_f_X6_stepAt_0_31 (h : HS) (y0 : Int32) : pk (f_X6_stepAt_0_31 h y0) (fun a => Fr S_X6_stepAt_0_31 h a.2) := by
  unfold f_X6_stepAt_0_31
  exact pk_some (Fr_refl _ h)
def S_X6_stepAt_0_30 : CL := []
theorem fs_X6_stepAt_0_31__X6_stepAt_0_30 : ∀ x ∈ S_X6_stepAt_0_31, x ∈ S_X6_stepAt_0_30 := by decide
theorem w_f_X6_stepAt_0_30 (h : HS) : pk (f_X6_stepAt_0_30 h) (fun a => Fr S_X6_stepAt_0_30 h a.2) := by
  unfold f_X6_stepAt_0_30
  exact pk_mono (w_f_X6_stepAt_0_31 h 0) (fun _ k => Fr_trans (Fr_refl _ h) (Fr_mono fs_X6_stepAt_0_31__X6_stepAt_0_30 k))
def S_X6_stepAt_0 : CL := []
theorem fs_X6_stepAt_0_30__X6_stepAt_0 : ∀ x ∈ S_X6_stepAt_0_30, x ∈ S_X6_stepAt_0 := by decide
theorem fs_X6_stepAt_0_31__X6_stepAt_0 : ∀ x ∈ S_X6_stepAt_0_31, x ∈ S_X6_stepAt_0 := by decide
theorem w_f_X6_stepAt_0 (h : HS) (p1 : Int32) : pk (f_X6_stepAt_0 h p1) (fun a => Fr S_X6_stepAt_0 h a.2) := by
  unfold f_X6_stepAt_0
  refine pk_if (fun _ => ?_) (fun _ => ?_)
  · exact pk_mono (w_f_X6_stepAt_0_30 h) (fun _ k => Fr_trans (Fr_refl _ h) (Fr_mono fs_X6_stepAt_0_30__X6_stepAt_0 k))
  · refine pk_if (fun _ => ?_) (fun _ => ?_)
    · exact pk_mono (w_f_X6_stepAt_0_30 h) (fun _ k => Fr_trans (Fr_refl _ h) (Fr_mono fs_X6_stepAt_0_30__X6_stepAt_0 k))
    · refine pk_if (fun _ => ?_) (fun _ => ?_)
      · exact pk_mono (w_f_X6_stepAt_0_30 h) (fun _ k => Fr_trans (Fr_refl _ h) (Fr_mono fs_X6_stepAt_0_30__X6_stepAt_0 k))
      · refine pk_chk (fun _ => ?_)
        exact pk_mono (w_f_X6_stepAt_0_31 h ((eA h 9 2) ((p1).toNatClampNeg))) (fun _ k => Fr_trans (Fr_refl _ h) (Fr_mono fs_X6_stepAt_0_31__X6_stepAt_0 k))
def S_X6_clauseField_0_19 : CL := []
theorem w_f_X6_clauseField_0_19 (h : HS) : pk (f_X6_clauseField_0_19 h) (fun a => Fr S_X6_clauseField_0_19 h a.2) := by
  unfold f_X6_clauseField_0_19
  exact pk_some (Fr_refl _ h)
def S_X6_clauseField_0 : CL := []
theorem fs_X6_clauseField_0_19__X6_clauseField_0 : ∀ x ∈ S_X6_clauseField_0_19, x ∈ S_X6_clauseField_0 := by decide
theorem w_f_X6_clauseField_0 (h : HS) (p1 : Int32) (p2 : Int32) : pk (f_X6_clauseField_0 h p1 p2) (fun a => Fr S_X6_clauseField_0 h a.2) := by
  unfold f_X6_clauseField_0
  refine pk_if (fun _ => ?_) (fun _ => ?_)
  · exact pk_mono (w_f_X6_clauseField_0_19 h) (fun _ k => Fr_trans (Fr_refl _ h) (Fr_mono fs_X6_clauseField_0_19__X6_clauseField_0 k))
  · refine pk_if (fun _ => ?_) (fun _ => ?_)
    · exact pk_mono (w_f_X6_clauseField_0_19 h) (fun _ k => Fr_trans (Fr_refl _ h) (Fr_mono fs_X6_clauseField_0_19__X6_clauseField_0 k))
    · refine pk_if (fun _ => ?_) (fun _ => ?_)
      · exact pk_mono (w_f_X6_clauseField_0_19 h) (fun _ k => Fr_trans (Fr_refl _ h) (Fr_mono fs_X6_clauseField_0_19__X6_clauseField_0 k))
      · refine pk_if (fun _ => ?_) (fun _ => ?_)
        · refine pk_chk (fun _ => ?_)
          exact pk_some (Fr_refl _ h)
        · exact pk_mono (w_f_X6_clauseField_0_19 h) (fun _ k => Fr_trans (Fr_refl _ h) (Fr_mono fs_X6_clauseField_0_19__X6_clauseField_0 k))
def S_X6_setClause_0_30 : CL := []
theorem w_f_X6_setClause_0_30 (h : HS) : pk (f_X6_setClause_0_30 h) (fun a => Fr S_X6_setClause_0_30 h a) := by
  unfold f_X6_setClause_0_30
  exact pk_some (Fr_refl _ h)
def S_X6_setClause_0 : CL := [(1, 9, 0)]
theorem fm_X6_setClause_0_1_9_0 : (1, 9, 0) ∈ S_X6_setClause_0 := by decide
theorem fs_X6_setClause_0_30__X6_setClause_0 : ∀ x ∈ S_X6_setClause_0_30, x ∈ S_X6_setClause_0 := by decide
theorem w_f_X6_setClause_0 (h : HS) (p1 : Int32) (p2 : Int32) (p3 : Int32) : pk (f_X6_setClause_0 h p1 p2 p3) (fun a => Fr S_X6_setClause_0 h a) := by
  unfold f_X6_setClause_0
  refine pk_if (fun _ => ?_) (fun _ => ?_)
  · exact pk_mono (w_f_X6_setClause_0_30 h) (fun _ k => Fr_trans (Fr_refl _ h) (Fr_mono fs_X6_setClause_0_30__X6_setClause_0 k))
  · refine pk_if (fun _ => ?_) (fun _ => ?_)
    · exact pk_mono (w_f_X6_setClause_0_30 h) (fun _ k => Fr_trans (Fr_refl _ h) (Fr_mono fs_X6_setClause_0_30__X6_setClause_0 k))
    · refine pk_if (fun _ => ?_) (fun _ => ?_)
      · exact pk_mono (w_f_X6_setClause_0_30 h) (fun _ k => Fr_trans (Fr_refl _ h) (Fr_mono fs_X6_setClause_0_30__X6_setClause_0 k))
      · refine pk_if (fun _ => ?_) (fun _ => ?_)
        · exact pk_mono (w_f_X6_setClause_0_30 h) (fun _ k => Fr_trans (Fr_refl _ h) (Fr_mono fs_X6_setClause_0_30__X6_setClause_0 k))
        · refine pk_chk (fun _ => ?_)
          exact pk_mono (w_f_X6_setClause_0_30 (sA h 9 0 (upd (eA h 9 0) ((((p1 * 4) + p2)).toNatClampNeg) p3))) (fun _ k => Fr_trans (Fr_sA fm_X6_setClause_0_1_9_0 (Fr_refl _ h)) (Fr_mono fs_X6_setClause_0_30__X6_setClause_0 k))
def S_X6_clear_1_12 : CL := [(1, 10, 3), (1, 10, 4)]
theorem fm_X6_clear_1_12_1_10_4 : (1, 10, 4) ∈ S_X6_clear_1_12 := by decide
theorem fm_X6_clear_1_12_1_10_3 : (1, 10, 3) ∈ S_X6_clear_1_12 := by decide
theorem w_f_X6_clear_1_12  : ∀ (n : Nat) (h : HS) (x1 : Int32), pk (f_X6_clear_1_12  n h x1) (fun a => Fr S_X6_clear_1_12 h a) := by
  intro n
  induction n with
  | zero => intro h x1; exact pk_none
  | succ n ih =>
    intro h x1
    rw [f_X6_clear_1_12_s]
    refine pk_if (fun _ => ?_) (fun _ => ?_)
    · exact pk_some (Fr_refl _ h)
    · refine pk_chk (fun _ => ?_)
      refine pk_chk (fun _ => ?_)
      exact pk_mono (ih (sA (sA h 10 3 (upd (eA h 10 3) ((x1).toNatClampNeg) (-1))) 10 4 (upd (eA h 10 4) ((x1).toNatClampNeg) (-1))) (x1 + 1)) (fun _ k => Fr_trans (Fr_sA fm_X6_clear_1_12_1_10_4 (Fr_sA fm_X6_clear_1_12_1_10_3 (Fr_refl _ h))) k)
def S_X6_clear_1 : CL := [(0, 10, 1), (0, 10, 5), (1, 10, 3), (1, 10, 4)]
theorem fm_X6_clear_1_0_10_5 : (0, 10, 5) ∈ S_X6_clear_1 := by decide
theorem fm_X6_clear_1_0_10_1 : (0, 10, 1) ∈ S_X6_clear_1 := by decide
theorem fs_X6_clear_1_12__X6_clear_1 : ∀ x ∈ S_X6_clear_1_12, x ∈ S_X6_clear_1 := by decide
theorem w_f_X6_clear_1 (h : HS) : pk (f_X6_clear_1 h) (fun a => Fr S_X6_clear_1 h a) := by
  unfold f_X6_clear_1
  exact pk_mono (w_f_X6_clear_1_12 8589934592 (sI (sI h 10 1 0) 10 5 0) 0) (fun _ k => Fr_trans (Fr_sI fm_X6_clear_1_0_10_5 (Fr_sI fm_X6_clear_1_0_10_1 (Fr_refl _ h))) (Fr_mono fs_X6_clear_1_12__X6_clear_1 k))
def S_X6_hasLaw_1_24 : CL := []
theorem w_f_X6_hasLaw_1_24 (h : HS) (y0 : Int32) : pk (f_X6_hasLaw_1_24 h y0) (fun a => Fr S_X6_hasLaw_1_24 h a.2) := by
  unfold f_X6_hasLaw_1_24
  refine pk_chk (fun _ => ?_)
  exact pk_some (Fr_refl _ h)
def S_X6_hasLaw_1_23 : CL := []
theorem fs_X6_hasLaw_1_24__X6_hasLaw_1_23 : ∀ x ∈ S_X6_hasLaw_1_24, x ∈ S_X6_hasLaw_1_23 := by decide
theorem w_f_X6_hasLaw_1_23 (h : HS) : pk (f_X6_hasLaw_1_23 h) (fun a => Fr S_X6_hasLaw_1_23 h a.2) := by
  unfold f_X6_hasLaw_1_23
  exact pk_mono (w_f_X6_hasLaw_1_24 h 0) (fun _ k => Fr_trans (Fr_refl _ h) (Fr_mono fs_X6_hasLaw_1_24__X6_hasLaw_1_23 k))
def S_X6_hasLaw_1 : CL := []
theorem fs_X6_hasLaw_1_23__X6_hasLaw_1 : ∀ x ∈ S_X6_hasLaw_1_23, x ∈ S_X6_hasLaw_1 := by decide
theorem fs_X6_hasLaw_1_24__X6_hasLaw_1 : ∀ x ∈ S_X6_hasLaw_1_24, x ∈ S_X6_hasLaw_1 := by decide
theorem w_f_X6_hasLaw_1 (h : HS) (p1 : Int32) : pk (f_X6_hasLaw_1 h p1) (fun a => Fr S_X6_hasLaw_1 h a.2) := by
  unfold f_X6_hasLaw_1
  refine pk_if (fun _ => ?_) (fun _ => ?_)
  · exact pk_mono (w_f_X6_hasLaw_1_23 h) (fun _ k => Fr_trans (Fr_refl _ h) (Fr_mono fs_X6_hasLaw_1_23__X6_hasLaw_1 k))
  · refine pk_if (fun _ => ?_) (fun _ => ?_)
    · exact pk_mono (w_f_X6_hasLaw_1_23 h) (fun _ k => Fr_trans (Fr_refl _ h) (Fr_mono fs_X6_hasLaw_1_23__X6_hasLaw_1 k))
    · refine pk_chk (fun _ => ?_)
      refine pk_if (fun _ => ?_) (fun _ => ?_)
      · exact pk_mono (w_f_X6_hasLaw_1_23 h) (fun _ k => Fr_trans (Fr_refl _ h) (Fr_mono fs_X6_hasLaw_1_23__X6_hasLaw_1 k))
      · exact pk_mono (w_f_X6_hasLaw_1_24 h 1) (fun _ k => Fr_trans (Fr_refl _ h) (Fr_mono fs_X6_hasLaw_1_24__X6_hasLaw_1 k))
def S_X6_beginLaw_1_19 : CL := []
theorem w_f_X6_beginLaw_1_19 (h : HS) : pk (f_X6_beginLaw_1_19 h) (fun a => Fr S_X6_beginLaw_1_19 h a) := by
  unfold f_X6_beginLaw_1_19
  exact pk_some (Fr_refl _ h)
def S_X6_beginLaw_1 : CL := [(1, 10, 3)]
theorem fm_X6_beginLaw_1_1_10_3 : (1, 10, 3) ∈ S_X6_beginLaw_1 := by decide
theorem fs_X6_beginLaw_1_19__X6_beginLaw_1 : ∀ x ∈ S_X6_beginLaw_1_19, x ∈ S_X6_beginLaw_1 := by decide
theorem w_f_X6_beginLaw_1 (h : HS) (p1 : Int32) : pk (f_X6_beginLaw_1 h p1) (fun a => Fr S_X6_beginLaw_1 h a) := by
  unfold f_X6_beginLaw_1
  refine pk_if (fun _ => ?_) (fun _ => ?_)
  · exact pk_mono (w_f_X6_beginLaw_1_19 h) (fun _ k => Fr_trans (Fr_refl _ h) (Fr_mono fs_X6_beginLaw_1_19__X6_beginLaw_1 k))
  · refine pk_if (fun _ => ?_) (fun _ => ?_)
    · exact pk_mono (w_f_X6_beginLaw_1_19 h) (fun _ k => Fr_trans (Fr_refl _ h) (Fr_mono fs_X6_beginLaw_1_19__X6_beginLaw_1 k))
    · refine pk_chk (fun _ => ?_)
      exact pk_mono (w_f_X6_beginLaw_1_19 (sA h 10 3 (upd (eA h 10 3) ((p1).toNatClampNeg) (eI h 10 5)))) (fun _ k => Fr_trans (Fr_sA fm_X6_beginLaw_1_1_10_3 (Fr_refl _ h)) (Fr_mono fs_X6_beginLaw_1_19__X6_beginLaw_1 k))
def S_X6_closeLaw_1_19 : CL := []
theorem w_f_X6_closeLaw_1_19 (h : HS) : pk (f_X6_closeLaw_1_19 h) (fun a => Fr S_X6_closeLaw_1_19 h a) := by
  unfold f_X6_closeLaw_1_19
  exact pk_some (Fr_refl _ h)
def S_X6_closeLaw_1 : CL := [(1, 10, 4)]
theorem fm_X6_closeLaw_1_1_10_4 : (1, 10, 4) ∈ S_X6_closeLaw_1 := by decide
theorem fs_X6_closeLaw_1_19__X6_closeLaw_1 : ∀ x ∈ S_X6_closeLaw_1_19, x ∈ S_X6_closeLaw_1 := by decide
theorem w_f_X6_closeLaw_1 (h : HS) (p1 : Int32) : pk (f_X6_closeLaw_1 h p1) (fun a => Fr S_X6_closeLaw_1 h a) := by
  unfold f_X6_closeLaw_1
  refine pk_if (fun _ => ?_) (fun _ => ?_)
  · exact pk_mono (w_f_X6_closeLaw_1_19 h) (fun _ k => Fr_trans (Fr_refl _ h) (Fr_mono fs_X6_closeLaw_1_19__X6_closeLaw_1 k))
  · refine pk_if (fun _ => ?_) (fun _ => ?_)
    · exact pk_mono (w_f_X6_closeLaw_1_19 h) (fun _ k => Fr_trans (Fr_refl _ h) (Fr_mono fs_X6_closeLaw_1_19__X6_closeLaw_1 k))
    · refine pk_chk (fun _ => ?_)
      exact pk_mono (w_f_X6_closeLaw_1_19 (sA h 10 4 (upd (eA h 10 4) ((p1).toNatClampNeg) (eI h 10 5)))) (fun _ k => Fr_trans (Fr_sA fm_X6_closeLaw_1_1_10_4 (Fr_refl _ h)) (Fr_mono fs_X6_closeLaw_1_19__X6_closeLaw_1 k))
def S_X6_firstStep_1_19 : CL := []
theorem w_f_X6_firstStep_1_19 (h : HS) (y0 : Int32) : pk (f_X6_firstStep_1_19 h y0) (fun a => Fr S_X6_firstStep_1_19 h a.2) := by
  unfold f_X6_firstStep_1_19
  exact pk_some (Fr_refl _ h)
def S_X6_firstStep_1_18 : CL := []
theorem fs_X6_firstStep_1_19__X6_firstStep_1_18 : ∀ x ∈ S_X6_firstStep_1_19, x ∈ S_X6_firstStep_1_18 := by decide
theorem w_f_X6_firstStep_1_18 (h : HS) : pk (f_X6_firstStep_1_18 h) (fun a => Fr S_X6_firstStep_1_18 h a.2) := by
  unfold f_X6_firstStep_1_18
  exact pk_mono (w_f_X6_firstStep_1_19 h 0) (fun _ k => Fr_trans (Fr_refl _ h) (Fr_mono fs_X6_firstStep_1_19__X6_firstStep_1_18 k))
def S_X6_firstStep_1 : CL := []
theorem fs_X6_firstStep_1_18__X6_firstStep_1 : ∀ x ∈ S_X6_firstStep_1_18, x ∈ S_X6_firstStep_1 := by decide
theorem fs_X6_firstStep_1_19__X6_firstStep_1 : ∀ x ∈ S_X6_firstStep_1_19, x ∈ S_X6_firstStep_1 := by decide
theorem w_f_X6_firstStep_1 (h : HS) (p1 : Int32) : pk (f_X6_firstStep_1 h p1) (fun a => Fr S_X6_firstStep_1 h a.2) := by
  unfold f_X6_firstStep_1
  refine pk_if (fun _ => ?_) (fun _ => ?_)
  · exact pk_mono (w_f_X6_firstStep_1_18 h) (fun _ k => Fr_trans (Fr_refl _ h) (Fr_mono fs_X6_firstStep_1_18__X6_firstStep_1 k))
  · refine pk_if (fun _ => ?_) (fun _ => ?_)
    · exact pk_mono (w_f_X6_firstStep_1_18 h) (fun _ k => Fr_trans (Fr_refl _ h) (Fr_mono fs_X6_firstStep_1_18__X6_firstStep_1 k))
    · refine pk_chk (fun _ => ?_)
      exact pk_mono (w_f_X6_firstStep_1_19 h ((eA h 10 3) ((p1).toNatClampNeg))) (fun _ k => Fr_trans (Fr_refl _ h) (Fr_mono fs_X6_firstStep_1_19__X6_firstStep_1 k))
def S_X6_stepsEnd_1_19 : CL := []
theorem w_f_X6_stepsEnd_1_19 (h : HS) (y0 : Int32) : pk (f_X6_stepsEnd_1_19 h y0) (fun a => Fr S_X6_stepsEnd_1_19 h a.2) := by
  unfold f_X6_stepsEnd_1_19
  exact pk_some (Fr_refl _ h)
def S_X6_stepsEnd_1_18 : CL := []
theorem fs_X6_stepsEnd_1_19__X6_stepsEnd_1_18 : ∀ x ∈ S_X6_stepsEnd_1_19, x ∈ S_X6_stepsEnd_1_18 := by decide
theorem w_f_X6_stepsEnd_1_18 (h : HS) : pk (f_X6_stepsEnd_1_18 h) (fun a => Fr S_X6_stepsEnd_1_18 h a.2) := by
  unfold f_X6_stepsEnd_1_18
  exact pk_mono (w_f_X6_stepsEnd_1_19 h 0) (fun _ k => Fr_trans (Fr_refl _ h) (Fr_mono fs_X6_stepsEnd_1_19__X6_stepsEnd_1_18 k))
def S_X6_stepsEnd_1 : CL := []
theorem fs_X6_stepsEnd_1_18__X6_stepsEnd_1 : ∀ x ∈ S_X6_stepsEnd_1_18, x ∈ S_X6_stepsEnd_1 := by decide
theorem fs_X6_stepsEnd_1_19__X6_stepsEnd_1 : ∀ x ∈ S_X6_stepsEnd_1_19, x ∈ S_X6_stepsEnd_1 := by decide
theorem w_f_X6_stepsEnd_1 (h : HS) (p1 : Int32) : pk (f_X6_stepsEnd_1 h p1) (fun a => Fr S_X6_stepsEnd_1 h a.2) := by
  unfold f_X6_stepsEnd_1
  refine pk_if (fun _ => ?_) (fun _ => ?_)
  · exact pk_mono (w_f_X6_stepsEnd_1_18 h) (fun _ k => Fr_trans (Fr_refl _ h) (Fr_mono fs_X6_stepsEnd_1_18__X6_stepsEnd_1 k))
  · refine pk_if (fun _ => ?_) (fun _ => ?_)
    · exact pk_mono (w_f_X6_stepsEnd_1_18 h) (fun _ k => Fr_trans (Fr_refl _ h) (Fr_mono fs_X6_stepsEnd_1_18__X6_stepsEnd_1 k))
    · refine pk_chk (fun _ => ?_)
      exact pk_mono (w_f_X6_stepsEnd_1_19 h ((eA h 10 4) ((p1).toNatClampNeg))) (fun _ k => Fr_trans (Fr_refl _ h) (Fr_mono fs_X6_stepsEnd_1_19__X6_stepsEnd_1 k))
def S_X6_addStep_1_32 : CL := []
theorem w_f_X6_addStep_1_32 (h : HS) : pk (f_X6_addStep_1_32 h) (fun a => Fr S_X6_addStep_1_32 h a) := by
  unfold f_X6_addStep_1_32
  exact pk_some (Fr_refl _ h)
def S_X6_addStep_1 : CL := [(0, 10, 5), (1, 10, 2)]
theorem fm_X6_addStep_1_0_10_5 : (0, 10, 5) ∈ S_X6_addStep_1 := by decide
theorem fm_X6_addStep_1_1_10_2 : (1, 10, 2) ∈ S_X6_addStep_1 := by decide
theorem fs_X6_addStep_1_32__X6_addStep_1 : ∀ x ∈ S_X6_addStep_1_32, x ∈ S_X6_addStep_1 := by decide
theorem w_f_X6_addStep_1 (h : HS) (p1 : Int32) : pk (f_X6_addStep_1 h p1) (fun a => Fr S_X6_addStep_1 h a) := by
  unfold f_X6_addStep_1
  refine pk_if (fun _ => ?_) (fun _ => ?_)
  · exact pk_mono (w_f_X6_addStep_1_32 h) (fun _ k => Fr_trans (Fr_refl _ h) (Fr_mono fs_X6_addStep_1_32__X6_addStep_1 k))
  · refine pk_chk (fun _ => ?_)
    exact pk_mono (w_f_X6_addStep_1_32 (sI (sA h 10 2 (upd (eA h 10 2) (((eI h 10 5)).toNatClampNeg) p1)) 10 5 ((eI h 10 5) + 1))) (fun _ k => Fr_trans (Fr_sI fm_X6_addStep_1_0_10_5 (Fr_sA fm_X6_addStep_1_1_10_2 (Fr_refl _ h))) (Fr_mono fs_X6_addStep_1_32__X6_addStep_1 k))
def S_X6_stepAt_1_31 : CL := []
theorem w_f_X6_stepAt_1_31 (h : HS) (y0 : Int32) : pk (f_X6_stepAt_1_31 h y0) (fun a => Fr S_X6_stepAt_1_31 h a.2) := by
  unfold f_X6_stepAt_1_31
  exact pk_some (Fr_refl _ h)
def S_X6_stepAt_1_30 : CL := []
theorem fs_X6_stepAt_1_31__X6_stepAt_1_30 : ∀ x ∈ S_X6_stepAt_1_31, x ∈ S_X6_stepAt_1_30 := by decide
theorem w_f_X6_stepAt_1_30 (h : HS) : pk (f_X6_stepAt_1_30 h) (fun a => Fr S_X6_stepAt_1_30 h a.2) := by
  unfold f_X6_stepAt_1_30
  exact pk_mono (w_f_X6_stepAt_1_31 h 0) (fun _ k => Fr_trans (Fr_refl _ h) (Fr_mono fs_X6_stepAt_1_31__X6_stepAt_1_30 k))
def S_X6_stepAt_1 : CL := []
theorem fs_X6_stepAt_1_30__X6_stepAt_1 : ∀ x ∈ S_X6_stepAt_1_30, x ∈ S_X6_stepAt_1 := by decide
theorem fs_X6_stepAt_1_31__X6_stepAt_1 : ∀ x ∈ S_X6_stepAt_1_31, x ∈ S_X6_stepAt_1 := by decide
theorem w_f_X6_stepAt_1 (h : HS) (p1 : Int32) : pk (f_X6_stepAt_1 h p1) (fun a => Fr S_X6_stepAt_1 h a.2) := by
  unfold f_X6_stepAt_1
  refine pk_if (fun _ => ?_) (fun _ => ?_)
  · exact pk_mono (w_f_X6_stepAt_1_30 h) (fun _ k => Fr_trans (Fr_refl _ h) (Fr_mono fs_X6_stepAt_1_30__X6_stepAt_1 k))
  · refine pk_if (fun _ => ?_) (fun _ => ?_)
    · exact pk_mono (w_f_X6_stepAt_1_30 h) (fun _ k => Fr_trans (Fr_refl _ h) (Fr_mono fs_X6_stepAt_1_30__X6_stepAt_1 k))
    · refine pk_if (fun _ => ?_) (fun _ => ?_)
      · exact pk_mono (w_f_X6_stepAt_1_30 h) (fun _ k => Fr_trans (Fr_refl _ h) (Fr_mono fs_X6_stepAt_1_30__X6_stepAt_1 k))
      · refine pk_chk (fun _ => ?_)
        exact pk_mono (w_f_X6_stepAt_1_31 h ((eA h 10 2) ((p1).toNatClampNeg))) (fun _ k => Fr_trans (Fr_refl _ h) (Fr_mono fs_X6_stepAt_1_31__X6_stepAt_1 k))
def S_X6_clauseField_1_19 : CL := []
theorem w_f_X6_clauseField_1_19 (h : HS) : pk (f_X6_clauseField_1_19 h) (fun a => Fr S_X6_clauseField_1_19 h a.2) := by
  unfold f_X6_clauseField_1_19
  exact pk_some (Fr_refl _ h)
def S_X6_clauseField_1 : CL := []
theorem fs_X6_clauseField_1_19__X6_clauseField_1 : ∀ x ∈ S_X6_clauseField_1_19, x ∈ S_X6_clauseField_1 := by decide
theorem w_f_X6_clauseField_1 (h : HS) (p1 : Int32) (p2 : Int32) : pk (f_X6_clauseField_1 h p1 p2) (fun a => Fr S_X6_clauseField_1 h a.2) := by
  unfold f_X6_clauseField_1
  refine pk_if (fun _ => ?_) (fun _ => ?_)
  · exact pk_mono (w_f_X6_clauseField_1_19 h) (fun _ k => Fr_trans (Fr_refl _ h) (Fr_mono fs_X6_clauseField_1_19__X6_clauseField_1 k))
  · refine pk_if (fun _ => ?_) (fun _ => ?_)
    · exact pk_mono (w_f_X6_clauseField_1_19 h) (fun _ k => Fr_trans (Fr_refl _ h) (Fr_mono fs_X6_clauseField_1_19__X6_clauseField_1 k))
    · refine pk_if (fun _ => ?_) (fun _ => ?_)
      · exact pk_mono (w_f_X6_clauseField_1_19 h) (fun _ k => Fr_trans (Fr_refl _ h) (Fr_mono fs_X6_clauseField_1_19__X6_clauseField_1 k))
      · refine pk_if (fun _ => ?_) (fun _ => ?_)
        · refine pk_chk (fun _ => ?_)
          exact pk_some (Fr_refl _ h)
        · exact pk_mono (w_f_X6_clauseField_1_19 h) (fun _ k => Fr_trans (Fr_refl _ h) (Fr_mono fs_X6_clauseField_1_19__X6_clauseField_1 k))
def S_X6_setClause_1_30 : CL := []
theorem w_f_X6_setClause_1_30 (h : HS) : pk (f_X6_setClause_1_30 h) (fun a => Fr S_X6_setClause_1_30 h a) := by
  unfold f_X6_setClause_1_30
  exact pk_some (Fr_refl _ h)
def S_X6_setClause_1 : CL := [(1, 10, 0)]
theorem fm_X6_setClause_1_1_10_0 : (1, 10, 0) ∈ S_X6_setClause_1 := by decide
theorem fs_X6_setClause_1_30__X6_setClause_1 : ∀ x ∈ S_X6_setClause_1_30, x ∈ S_X6_setClause_1 := by decide
theorem w_f_X6_setClause_1 (h : HS) (p1 : Int32) (p2 : Int32) (p3 : Int32) : pk (f_X6_setClause_1 h p1 p2 p3) (fun a => Fr S_X6_setClause_1 h a) := by
  unfold f_X6_setClause_1
  refine pk_if (fun _ => ?_) (fun _ => ?_)
  · exact pk_mono (w_f_X6_setClause_1_30 h) (fun _ k => Fr_trans (Fr_refl _ h) (Fr_mono fs_X6_setClause_1_30__X6_setClause_1 k))
  · refine pk_if (fun _ => ?_) (fun _ => ?_)
    · exact pk_mono (w_f_X6_setClause_1_30 h) (fun _ k => Fr_trans (Fr_refl _ h) (Fr_mono fs_X6_setClause_1_30__X6_setClause_1 k))
    · refine pk_if (fun _ => ?_) (fun _ => ?_)
      · exact pk_mono (w_f_X6_setClause_1_30 h) (fun _ k => Fr_trans (Fr_refl _ h) (Fr_mono fs_X6_setClause_1_30__X6_setClause_1 k))
      · refine pk_if (fun _ => ?_) (fun _ => ?_)
        · exact pk_mono (w_f_X6_setClause_1_30 h) (fun _ k => Fr_trans (Fr_refl _ h) (Fr_mono fs_X6_setClause_1_30__X6_setClause_1 k))
        · refine pk_chk (fun _ => ?_)
          exact pk_mono (w_f_X6_setClause_1_30 (sA h 10 0 (upd (eA h 10 0) ((((p1 * 4) + p2)).toNatClampNeg) p3))) (fun _ k => Fr_trans (Fr_sA fm_X6_setClause_1_1_10_0 (Fr_refl _ h)) (Fr_mono fs_X6_setClause_1_30__X6_setClause_1 k))
def S_X6_clear_2_12 : CL := [(1, 11, 3), (1, 11, 4)]
theorem fm_X6_clear_2_12_1_11_4 : (1, 11, 4) ∈ S_X6_clear_2_12 := by decide
theorem fm_X6_clear_2_12_1_11_3 : (1, 11, 3) ∈ S_X6_clear_2_12 := by decide
theorem w_f_X6_clear_2_12  : ∀ (n : Nat) (h : HS) (x1 : Int32), pk (f_X6_clear_2_12  n h x1) (fun a => Fr S_X6_clear_2_12 h a) := by
  intro n
  induction n with
  | zero => intro h x1; exact pk_none
  | succ n ih =>
    intro h x1
    rw [f_X6_clear_2_12_s]
    refine pk_if (fun _ => ?_) (fun _ => ?_)
    · exact pk_some (Fr_refl _ h)
    · refine pk_chk (fun _ => ?_)
      refine pk_chk (fun _ => ?_)
      exact pk_mono (ih (sA (sA h 11 3 (upd (eA h 11 3) ((x1).toNatClampNeg) (-1))) 11 4 (upd (eA h 11 4) ((x1).toNatClampNeg) (-1))) (x1 + 1)) (fun _ k => Fr_trans (Fr_sA fm_X6_clear_2_12_1_11_4 (Fr_sA fm_X6_clear_2_12_1_11_3 (Fr_refl _ h))) k)
def S_X6_clear_2 : CL := [(0, 11, 1), (0, 11, 5), (1, 11, 3), (1, 11, 4)]
theorem fm_X6_clear_2_0_11_5 : (0, 11, 5) ∈ S_X6_clear_2 := by decide
theorem fm_X6_clear_2_0_11_1 : (0, 11, 1) ∈ S_X6_clear_2 := by decide
theorem fs_X6_clear_2_12__X6_clear_2 : ∀ x ∈ S_X6_clear_2_12, x ∈ S_X6_clear_2 := by decide
theorem w_f_X6_clear_2 (h : HS) : pk (f_X6_clear_2 h) (fun a => Fr S_X6_clear_2 h a) := by
  unfold f_X6_clear_2
  exact pk_mono (w_f_X6_clear_2_12 8589934592 (sI (sI h 11 1 0) 11 5 0) 0) (fun _ k => Fr_trans (Fr_sI fm_X6_clear_2_0_11_5 (Fr_sI fm_X6_clear_2_0_11_1 (Fr_refl _ h))) (Fr_mono fs_X6_clear_2_12__X6_clear_2 k))
def S_X6_hasLaw_2_24 : CL := []
theorem w_f_X6_hasLaw_2_24 (h : HS) (y0 : Int32) : pk (f_X6_hasLaw_2_24 h y0) (fun a => Fr S_X6_hasLaw_2_24 h a.2) := by
  unfold f_X6_hasLaw_2_24
  refine pk_chk (fun _ => ?_)
  exact pk_some (Fr_refl _ h)
def S_X6_hasLaw_2_23 : CL := []
theorem fs_X6_hasLaw_2_24__X6_hasLaw_2_23 : ∀ x ∈ S_X6_hasLaw_2_24, x ∈ S_X6_hasLaw_2_23 := by decide
theorem w_f_X6_hasLaw_2_23 (h : HS) : pk (f_X6_hasLaw_2_23 h) (fun a => Fr S_X6_hasLaw_2_23 h a.2) := by
  unfold f_X6_hasLaw_2_23
  exact pk_mono (w_f_X6_hasLaw_2_24 h 0) (fun _ k => Fr_trans (Fr_refl _ h) (Fr_mono fs_X6_hasLaw_2_24__X6_hasLaw_2_23 k))
def S_X6_hasLaw_2 : CL := []
theorem fs_X6_hasLaw_2_23__X6_hasLaw_2 : ∀ x ∈ S_X6_hasLaw_2_23, x ∈ S_X6_hasLaw_2 := by decide
theorem fs_X6_hasLaw_2_24__X6_hasLaw_2 : ∀ x ∈ S_X6_hasLaw_2_24, x ∈ S_X6_hasLaw_2 := by decide
theorem w_f_X6_hasLaw_2 (h : HS) (p1 : Int32) : pk (f_X6_hasLaw_2 h p1) (fun a => Fr S_X6_hasLaw_2 h a.2) := by
  unfold f_X6_hasLaw_2
  refine pk_if (fun _ => ?_) (fun _ => ?_)
  · exact pk_mono (w_f_X6_hasLaw_2_23 h) (fun _ k => Fr_trans (Fr_refl _ h) (Fr_mono fs_X6_hasLaw_2_23__X6_hasLaw_2 k))
  · refine pk_if (fun _ => ?_) (fun _ => ?_)
    · exact pk_mono (w_f_X6_hasLaw_2_23 h) (fun _ k => Fr_trans (Fr_refl _ h) (Fr_mono fs_X6_hasLaw_2_23__X6_hasLaw_2 k))
    · refine pk_chk (fun _ => ?_)
      refine pk_if (fun _ => ?_) (fun _ => ?_)
      · exact pk_mono (w_f_X6_hasLaw_2_23 h) (fun _ k => Fr_trans (Fr_refl _ h) (Fr_mono fs_X6_hasLaw_2_23__X6_hasLaw_2 k))
      · exact pk_mono (w_f_X6_hasLaw_2_24 h 1) (fun _ k => Fr_trans (Fr_refl _ h) (Fr_mono fs_X6_hasLaw_2_24__X6_hasLaw_2 k))
def S_X6_beginLaw_2_19 : CL := []
theorem w_f_X6_beginLaw_2_19 (h : HS) : pk (f_X6_beginLaw_2_19 h) (fun a => Fr S_X6_beginLaw_2_19 h a) := by
  unfold f_X6_beginLaw_2_19
  exact pk_some (Fr_refl _ h)
def S_X6_beginLaw_2 : CL := [(1, 11, 3)]
theorem fm_X6_beginLaw_2_1_11_3 : (1, 11, 3) ∈ S_X6_beginLaw_2 := by decide
theorem fs_X6_beginLaw_2_19__X6_beginLaw_2 : ∀ x ∈ S_X6_beginLaw_2_19, x ∈ S_X6_beginLaw_2 := by decide
theorem w_f_X6_beginLaw_2 (h : HS) (p1 : Int32) : pk (f_X6_beginLaw_2 h p1) (fun a => Fr S_X6_beginLaw_2 h a) := by
  unfold f_X6_beginLaw_2
  refine pk_if (fun _ => ?_) (fun _ => ?_)
  · exact pk_mono (w_f_X6_beginLaw_2_19 h) (fun _ k => Fr_trans (Fr_refl _ h) (Fr_mono fs_X6_beginLaw_2_19__X6_beginLaw_2 k))
  · refine pk_if (fun _ => ?_) (fun _ => ?_)
    · exact pk_mono (w_f_X6_beginLaw_2_19 h) (fun _ k => Fr_trans (Fr_refl _ h) (Fr_mono fs_X6_beginLaw_2_19__X6_beginLaw_2 k))
    · refine pk_chk (fun _ => ?_)
      exact pk_mono (w_f_X6_beginLaw_2_19 (sA h 11 3 (upd (eA h 11 3) ((p1).toNatClampNeg) (eI h 11 5)))) (fun _ k => Fr_trans (Fr_sA fm_X6_beginLaw_2_1_11_3 (Fr_refl _ h)) (Fr_mono fs_X6_beginLaw_2_19__X6_beginLaw_2 k))
def S_X6_closeLaw_2_19 : CL := []
theorem w_f_X6_closeLaw_2_19 (h : HS) : pk (f_X6_closeLaw_2_19 h) (fun a => Fr S_X6_closeLaw_2_19 h a) := by
  unfold f_X6_closeLaw_2_19
  exact pk_some (Fr_refl _ h)
def S_X6_closeLaw_2 : CL := [(1, 11, 4)]
theorem fm_X6_closeLaw_2_1_11_4 : (1, 11, 4) ∈ S_X6_closeLaw_2 := by decide
theorem fs_X6_closeLaw_2_19__X6_closeLaw_2 : ∀ x ∈ S_X6_closeLaw_2_19, x ∈ S_X6_closeLaw_2 := by decide
theorem w_f_X6_closeLaw_2 (h : HS) (p1 : Int32) : pk (f_X6_closeLaw_2 h p1) (fun a => Fr S_X6_closeLaw_2 h a) := by
  unfold f_X6_closeLaw_2
  refine pk_if (fun _ => ?_) (fun _ => ?_)
  · exact pk_mono (w_f_X6_closeLaw_2_19 h) (fun _ k => Fr_trans (Fr_refl _ h) (Fr_mono fs_X6_closeLaw_2_19__X6_closeLaw_2 k))
  · refine pk_if (fun _ => ?_) (fun _ => ?_)
    · exact pk_mono (w_f_X6_closeLaw_2_19 h) (fun _ k => Fr_trans (Fr_refl _ h) (Fr_mono fs_X6_closeLaw_2_19__X6_closeLaw_2 k))
    · refine pk_chk (fun _ => ?_)
      exact pk_mono (w_f_X6_closeLaw_2_19 (sA h 11 4 (upd (eA h 11 4) ((p1).toNatClampNeg) (eI h 11 5)))) (fun _ k => Fr_trans (Fr_sA fm_X6_closeLaw_2_1_11_4 (Fr_refl _ h)) (Fr_mono fs_X6_closeLaw_2_19__X6_closeLaw_2 k))
def S_X6_firstStep_2_19 : CL := []
theorem w_f_X6_firstStep_2_19 (h : HS) (y0 : Int32) : pk (f_X6_firstStep_2_19 h y0) (fun a => Fr S_X6_firstStep_2_19 h a.2) := by
  unfold f_X6_firstStep_2_19
  exact pk_some (Fr_refl _ h)
def S_X6_firstStep_2_18 : CL := []
theorem fs_X6_firstStep_2_19__X6_firstStep_2_18 : ∀ x ∈ S_X6_firstStep_2_19, x ∈ S_X6_firstStep_2_18 := by decide
theorem w_f_X6_firstStep_2_18 (h : HS) : pk (f_X6_firstStep_2_18 h) (fun a => Fr S_X6_firstStep_2_18 h a.2) := by
  unfold f_X6_firstStep_2_18
  exact pk_mono (w_f_X6_firstStep_2_19 h 0) (fun _ k => Fr_trans (Fr_refl _ h) (Fr_mono fs_X6_firstStep_2_19__X6_firstStep_2_18 k))
def S_X6_firstStep_2 : CL := []
theorem fs_X6_firstStep_2_18__X6_firstStep_2 : ∀ x ∈ S_X6_firstStep_2_18, x ∈ S_X6_firstStep_2 := by decide
theorem fs_X6_firstStep_2_19__X6_firstStep_2 : ∀ x ∈ S_X6_firstStep_2_19, x ∈ S_X6_firstStep_2 := by decide
theorem w_f_X6_firstStep_2 (h : HS) (p1 : Int32) : pk (f_X6_firstStep_2 h p1) (fun a => Fr S_X6_firstStep_2 h a.2) := by
  unfold f_X6_firstStep_2
  refine pk_if (fun _ => ?_) (fun _ => ?_)
  · exact pk_mono (w_f_X6_firstStep_2_18 h) (fun _ k => Fr_trans (Fr_refl _ h) (Fr_mono fs_X6_firstStep_2_18__X6_firstStep_2 k))
  · refine pk_if (fun _ => ?_) (fun _ => ?_)
    · exact pk_mono (w_f_X6_firstStep_2_18 h) (fun _ k => Fr_trans (Fr_refl _ h) (Fr_mono fs_X6_firstStep_2_18__X6_firstStep_2 k))
    · refine pk_chk (fun _ => ?_)
      exact pk_mono (w_f_X6_firstStep_2_19 h ((eA h 11 3) ((p1).toNatClampNeg))) (fun _ k => Fr_trans (Fr_refl _ h) (Fr_mono fs_X6_firstStep_2_19__X6_firstStep_2 k))
def S_X6_stepsEnd_2_19 : CL := []
theorem w_f_X6_stepsEnd_2_19 (h : HS) (y0 : Int32) : pk (f_X6_stepsEnd_2_19 h y0) (fun a => Fr S_X6_stepsEnd_2_19 h a.2) := by
  unfold f_X6_stepsEnd_2_19
  exact pk_some (Fr_refl _ h)
def S_X6_stepsEnd_2_18 : CL := []
theorem fs_X6_stepsEnd_2_19__X6_stepsEnd_2_18 : ∀ x ∈ S_X6_stepsEnd_2_19, x ∈ S_X6_stepsEnd_2_18 := by decide
theorem w_f_X6_stepsEnd_2_18 (h : HS) : pk (f_X6_stepsEnd_2_18 h) (fun a => Fr S_X6_stepsEnd_2_18 h a.2) := by
  unfold f_X6_stepsEnd_2_18
  exact pk_mono (w_f_X6_stepsEnd_2_19 h 0) (fun _ k => Fr_trans (Fr_refl _ h) (Fr_mono fs_X6_stepsEnd_2_19__X6_stepsEnd_2_18 k))
def S_X6_stepsEnd_2 : CL := []
theorem fs_X6_stepsEnd_2_18__X6_stepsEnd_2 : ∀ x ∈ S_X6_stepsEnd_2_18, x ∈ S_X6_stepsEnd_2 := by decide
theorem fs_X6_stepsEnd_2_19__X6_stepsEnd_2 : ∀ x ∈ S_X6_stepsEnd_2_19, x ∈ S_X6_stepsEnd_2 := by decide
theorem w_f_X6_stepsEnd_2 (h : HS) (p1 : Int32) : pk (f_X6_stepsEnd_2 h p1) (fun a => Fr S_X6_stepsEnd_2 h a.2) := by
  unfold f_X6_stepsEnd_2
  refine pk_if (fun _ => ?_) (fun _ => ?_)
  · exact pk_mono (w_f_X6_stepsEnd_2_18 h) (fun _ k => Fr_trans (Fr_refl _ h) (Fr_mono fs_X6_stepsEnd_2_18__X6_stepsEnd_2 k))
  · refine pk_if (fun _ => ?_) (fun _ => ?_)
    · exact pk_mono (w_f_X6_stepsEnd_2_18 h) (fun _ k => Fr_trans (Fr_refl _ h) (Fr_mono fs_X6_stepsEnd_2_18__X6_stepsEnd_2 k))
    · refine pk_chk (fun _ => ?_)
      exact pk_mono (w_f_X6_stepsEnd_2_19 h ((eA h 11 4) ((p1).toNatClampNeg))) (fun _ k => Fr_trans (Fr_refl _ h) (Fr_mono fs_X6_stepsEnd_2_19__X6_stepsEnd_2 k))
def S_X6_addStep_2_32 : CL := []
theorem w_f_X6_addStep_2_32 (h : HS) : pk (f_X6_addStep_2_32 h) (fun a => Fr S_X6_addStep_2_32 h a) := by
  unfold f_X6_addStep_2_32
  exact pk_some (Fr_refl _ h)
def S_X6_addStep_2 : CL := [(0, 11, 5), (1, 11, 2)]
theorem fm_X6_addStep_2_0_11_5 : (0, 11, 5) ∈ S_X6_addStep_2 := by decide
theorem fm_X6_addStep_2_1_11_2 : (1, 11, 2) ∈ S_X6_addStep_2 := by decide
theorem fs_X6_addStep_2_32__X6_addStep_2 : ∀ x ∈ S_X6_addStep_2_32, x ∈ S_X6_addStep_2 := by decide
theorem w_f_X6_addStep_2 (h : HS) (p1 : Int32) : pk (f_X6_addStep_2 h p1) (fun a => Fr S_X6_addStep_2 h a) := by
  unfold f_X6_addStep_2
  refine pk_if (fun _ => ?_) (fun _ => ?_)
  · exact pk_mono (w_f_X6_addStep_2_32 h) (fun _ k => Fr_trans (Fr_refl _ h) (Fr_mono fs_X6_addStep_2_32__X6_addStep_2 k))
  · refine pk_chk (fun _ => ?_)
    exact pk_mono (w_f_X6_addStep_2_32 (sI (sA h 11 2 (upd (eA h 11 2) (((eI h 11 5)).toNatClampNeg) p1)) 11 5 ((eI h 11 5) + 1))) (fun _ k => Fr_trans (Fr_sI fm_X6_addStep_2_0_11_5 (Fr_sA fm_X6_addStep_2_1_11_2 (Fr_refl _ h))) (Fr_mono fs_X6_addStep_2_32__X6_addStep_2 k))
def S_X6_stepAt_2_31 : CL := []
theorem w_f_X6_stepAt_2_31 (h : HS) (y0 : Int32) : pk (f_X6_stepAt_2_31 h y0) (fun a => Fr S_X6_stepAt_2_31 h a.2) := by
  unfold f_X6_stepAt_2_31
  exact pk_some (Fr_refl _ h)
def S_X6_stepAt_2_30 : CL := []
theorem fs_X6_stepAt_2_31__X6_stepAt_2_30 : ∀ x ∈ S_X6_stepAt_2_31, x ∈ S_X6_stepAt_2_30 := by decide
theorem w_f_X6_stepAt_2_30 (h : HS) : pk (f_X6_stepAt_2_30 h) (fun a => Fr S_X6_stepAt_2_30 h a.2) := by
  unfold f_X6_stepAt_2_30
  exact pk_mono (w_f_X6_stepAt_2_31 h 0) (fun _ k => Fr_trans (Fr_refl _ h) (Fr_mono fs_X6_stepAt_2_31__X6_stepAt_2_30 k))
def S_X6_stepAt_2 : CL := []
theorem fs_X6_stepAt_2_30__X6_stepAt_2 : ∀ x ∈ S_X6_stepAt_2_30, x ∈ S_X6_stepAt_2 := by decide
theorem fs_X6_stepAt_2_31__X6_stepAt_2 : ∀ x ∈ S_X6_stepAt_2_31, x ∈ S_X6_stepAt_2 := by decide
theorem w_f_X6_stepAt_2 (h : HS) (p1 : Int32) : pk (f_X6_stepAt_2 h p1) (fun a => Fr S_X6_stepAt_2 h a.2) := by
  unfold f_X6_stepAt_2
  refine pk_if (fun _ => ?_) (fun _ => ?_)
  · exact pk_mono (w_f_X6_stepAt_2_30 h) (fun _ k => Fr_trans (Fr_refl _ h) (Fr_mono fs_X6_stepAt_2_30__X6_stepAt_2 k))
  · refine pk_if (fun _ => ?_) (fun _ => ?_)
    · exact pk_mono (w_f_X6_stepAt_2_30 h) (fun _ k => Fr_trans (Fr_refl _ h) (Fr_mono fs_X6_stepAt_2_30__X6_stepAt_2 k))
    · refine pk_if (fun _ => ?_) (fun _ => ?_)
      · exact pk_mono (w_f_X6_stepAt_2_30 h) (fun _ k => Fr_trans (Fr_refl _ h) (Fr_mono fs_X6_stepAt_2_30__X6_stepAt_2 k))
      · refine pk_chk (fun _ => ?_)
        exact pk_mono (w_f_X6_stepAt_2_31 h ((eA h 11 2) ((p1).toNatClampNeg))) (fun _ k => Fr_trans (Fr_refl _ h) (Fr_mono fs_X6_stepAt_2_31__X6_stepAt_2 k))
def S_X6_clauseField_2_19 : CL := []
theorem w_f_X6_clauseField_2_19 (h : HS) : pk (f_X6_clauseField_2_19 h) (fun a => Fr S_X6_clauseField_2_19 h a.2) := by
  unfold f_X6_clauseField_2_19
  exact pk_some (Fr_refl _ h)
def S_X6_clauseField_2 : CL := []
theorem fs_X6_clauseField_2_19__X6_clauseField_2 : ∀ x ∈ S_X6_clauseField_2_19, x ∈ S_X6_clauseField_2 := by decide
theorem w_f_X6_clauseField_2 (h : HS) (p1 : Int32) (p2 : Int32) : pk (f_X6_clauseField_2 h p1 p2) (fun a => Fr S_X6_clauseField_2 h a.2) := by
  unfold f_X6_clauseField_2
  refine pk_if (fun _ => ?_) (fun _ => ?_)
  · exact pk_mono (w_f_X6_clauseField_2_19 h) (fun _ k => Fr_trans (Fr_refl _ h) (Fr_mono fs_X6_clauseField_2_19__X6_clauseField_2 k))
  · refine pk_if (fun _ => ?_) (fun _ => ?_)
    · exact pk_mono (w_f_X6_clauseField_2_19 h) (fun _ k => Fr_trans (Fr_refl _ h) (Fr_mono fs_X6_clauseField_2_19__X6_clauseField_2 k))
    · refine pk_if (fun _ => ?_) (fun _ => ?_)
      · exact pk_mono (w_f_X6_clauseField_2_19 h) (fun _ k => Fr_trans (Fr_refl _ h) (Fr_mono fs_X6_clauseField_2_19__X6_clauseField_2 k))
      · refine pk_if (fun _ => ?_) (fun _ => ?_)
        · refine pk_chk (fun _ => ?_)
          exact pk_some (Fr_refl _ h)
        · exact pk_mono (w_f_X6_clauseField_2_19 h) (fun _ k => Fr_trans (Fr_refl _ h) (Fr_mono fs_X6_clauseField_2_19__X6_clauseField_2 k))
def S_X6_setClause_2_30 : CL := []
theorem w_f_X6_setClause_2_30 (h : HS) : pk (f_X6_setClause_2_30 h) (fun a => Fr S_X6_setClause_2_30 h a) := by
  unfold f_X6_setClause_2_30
  exact pk_some (Fr_refl _ h)
def S_X6_setClause_2 : CL := [(1, 11, 0)]
theorem fm_X6_setClause_2_1_11_0 : (1, 11, 0) ∈ S_X6_setClause_2 := by decide
theorem fs_X6_setClause_2_30__X6_setClause_2 : ∀ x ∈ S_X6_setClause_2_30, x ∈ S_X6_setClause_2 := by decide
theorem w_f_X6_setClause_2 (h : HS) (p1 : Int32) (p2 : Int32) (p3 : Int32) : pk (f_X6_setClause_2 h p1 p2 p3) (fun a => Fr S_X6_setClause_2 h a) := by
  unfold f_X6_setClause_2
  refine pk_if (fun _ => ?_) (fun _ => ?_)
  · exact pk_mono (w_f_X6_setClause_2_30 h) (fun _ k => Fr_trans (Fr_refl _ h) (Fr_mono fs_X6_setClause_2_30__X6_setClause_2 k))
  · refine pk_if (fun _ => ?_) (fun _ => ?_)
    · exact pk_mono (w_f_X6_setClause_2_30 h) (fun _ k => Fr_trans (Fr_refl _ h) (Fr_mono fs_X6_setClause_2_30__X6_setClause_2 k))
    · refine pk_if (fun _ => ?_) (fun _ => ?_)
      · exact pk_mono (w_f_X6_setClause_2_30 h) (fun _ k => Fr_trans (Fr_refl _ h) (Fr_mono fs_X6_setClause_2_30__X6_setClause_2 k))
      · refine pk_if (fun _ => ?_) (fun _ => ?_)
        · exact pk_mono (w_f_X6_setClause_2_30 h) (fun _ k => Fr_trans (Fr_refl _ h) (Fr_mono fs_X6_setClause_2_30__X6_setClause_2 k))
        · refine pk_chk (fun _ => ?_)
          exact pk_mono (w_f_X6_setClause_2_30 (sA h 11 0 (upd (eA h 11 0) ((((p1 * 4) + p2)).toNatClampNeg) p3))) (fun _ k => Fr_trans (Fr_sA fm_X6_setClause_2_1_11_0 (Fr_refl _ h)) (Fr_mono fs_X6_setClause_2_30__X6_setClause_2 k))
def S_X6_clear_3_12 : CL := [(1, 12, 3), (1, 12, 4)]
theorem fm_X6_clear_3_12_1_12_4 : (1, 12, 4) ∈ S_X6_clear_3_12 := by decide
theorem fm_X6_clear_3_12_1_12_3 : (1, 12, 3) ∈ S_X6_clear_3_12 := by decide
theorem w_f_X6_clear_3_12  : ∀ (n : Nat) (h : HS) (x1 : Int32), pk (f_X6_clear_3_12  n h x1) (fun a => Fr S_X6_clear_3_12 h a) := by
  intro n
  induction n with
  | zero => intro h x1; exact pk_none
  | succ n ih =>
    intro h x1
    rw [f_X6_clear_3_12_s]
    refine pk_if (fun _ => ?_) (fun _ => ?_)
    · exact pk_some (Fr_refl _ h)
    · refine pk_chk (fun _ => ?_)
      refine pk_chk (fun _ => ?_)
      exact pk_mono (ih (sA (sA h 12 3 (upd (eA h 12 3) ((x1).toNatClampNeg) (-1))) 12 4 (upd (eA h 12 4) ((x1).toNatClampNeg) (-1))) (x1 + 1)) (fun _ k => Fr_trans (Fr_sA fm_X6_clear_3_12_1_12_4 (Fr_sA fm_X6_clear_3_12_1_12_3 (Fr_refl _ h))) k)
def S_X6_clear_3 : CL := [(0, 12, 1), (0, 12, 5), (1, 12, 3), (1, 12, 4)]
theorem fm_X6_clear_3_0_12_5 : (0, 12, 5) ∈ S_X6_clear_3 := by decide
theorem fm_X6_clear_3_0_12_1 : (0, 12, 1) ∈ S_X6_clear_3 := by decide
theorem fs_X6_clear_3_12__X6_clear_3 : ∀ x ∈ S_X6_clear_3_12, x ∈ S_X6_clear_3 := by decide
theorem w_f_X6_clear_3 (h : HS) : pk (f_X6_clear_3 h) (fun a => Fr S_X6_clear_3 h a) := by
  unfold f_X6_clear_3
  exact pk_mono (w_f_X6_clear_3_12 8589934592 (sI (sI h 12 1 0) 12 5 0) 0) (fun _ k => Fr_trans (Fr_sI fm_X6_clear_3_0_12_5 (Fr_sI fm_X6_clear_3_0_12_1 (Fr_refl _ h))) (Fr_mono fs_X6_clear_3_12__X6_clear_3 k))
def S_X6_hasLaw_3_24 : CL := []
theorem w_f_X6_hasLaw_3_24 (h : HS) (y0 : Int32) : pk (f_X6_hasLaw_3_24 h y0) (fun a => Fr S_X6_hasLaw_3_24 h a.2) := by
  unfold f_X6_hasLaw_3_24
  refine pk_chk (fun _ => ?_)
  exact pk_some (Fr_refl _ h)
def S_X6_hasLaw_3_23 : CL := []
theorem fs_X6_hasLaw_3_24__X6_hasLaw_3_23 : ∀ x ∈ S_X6_hasLaw_3_24, x ∈ S_X6_hasLaw_3_23 := by decide
theorem w_f_X6_hasLaw_3_23 (h : HS) : pk (f_X6_hasLaw_3_23 h) (fun a => Fr S_X6_hasLaw_3_23 h a.2) := by
  unfold f_X6_hasLaw_3_23
  exact pk_mono (w_f_X6_hasLaw_3_24 h 0) (fun _ k => Fr_trans (Fr_refl _ h) (Fr_mono fs_X6_hasLaw_3_24__X6_hasLaw_3_23 k))
def S_X6_hasLaw_3 : CL := []
theorem fs_X6_hasLaw_3_23__X6_hasLaw_3 : ∀ x ∈ S_X6_hasLaw_3_23, x ∈ S_X6_hasLaw_3 := by decide
theorem fs_X6_hasLaw_3_24__X6_hasLaw_3 : ∀ x ∈ S_X6_hasLaw_3_24, x ∈ S_X6_hasLaw_3 := by decide
theorem w_f_X6_hasLaw_3 (h : HS) (p1 : Int32) : pk (f_X6_hasLaw_3 h p1) (fun a => Fr S_X6_hasLaw_3 h a.2) := by
  unfold f_X6_hasLaw_3
  refine pk_if (fun _ => ?_) (fun _ => ?_)
  · exact pk_mono (w_f_X6_hasLaw_3_23 h) (fun _ k => Fr_trans (Fr_refl _ h) (Fr_mono fs_X6_hasLaw_3_23__X6_hasLaw_3 k))
  · refine pk_if (fun _ => ?_) (fun _ => ?_)
    · exact pk_mono (w_f_X6_hasLaw_3_23 h) (fun _ k => Fr_trans (Fr_refl _ h) (Fr_mono fs_X6_hasLaw_3_23__X6_hasLaw_3 k))
    · refine pk_chk (fun _ => ?_)
      refine pk_if (fun _ => ?_) (fun _ => ?_)
      · exact pk_mono (w_f_X6_hasLaw_3_23 h) (fun _ k => Fr_trans (Fr_refl _ h) (Fr_mono fs_X6_hasLaw_3_23__X6_hasLaw_3 k))
      · exact pk_mono (w_f_X6_hasLaw_3_24 h 1) (fun _ k => Fr_trans (Fr_refl _ h) (Fr_mono fs_X6_hasLaw_3_24__X6_hasLaw_3 k))
def S_X6_beginLaw_3_19 : CL := []
theorem w_f_X6_beginLaw_3_19 (h : HS) : pk (f_X6_beginLaw_3_19 h) (fun a => Fr S_X6_beginLaw_3_19 h a) := by
  unfold f_X6_beginLaw_3_19
  exact pk_some (Fr_refl _ h)
def S_X6_beginLaw_3 : CL := [(1, 12, 3)]
theorem fm_X6_beginLaw_3_1_12_3 : (1, 12, 3) ∈ S_X6_beginLaw_3 := by decide
theorem fs_X6_beginLaw_3_19__X6_beginLaw_3 : ∀ x ∈ S_X6_beginLaw_3_19, x ∈ S_X6_beginLaw_3 := by decide
theorem w_f_X6_beginLaw_3 (h : HS) (p1 : Int32) : pk (f_X6_beginLaw_3 h p1) (fun a => Fr S_X6_beginLaw_3 h a) := by
  unfold f_X6_beginLaw_3
  refine pk_if (fun _ => ?_) (fun _ => ?_)
  · exact pk_mono (w_f_X6_beginLaw_3_19 h) (fun _ k => Fr_trans (Fr_refl _ h) (Fr_mono fs_X6_beginLaw_3_19__X6_beginLaw_3 k))
  · refine pk_if (fun _ => ?_) (fun _ => ?_)
    · exact pk_mono (w_f_X6_beginLaw_3_19 h) (fun _ k => Fr_trans (Fr_refl _ h) (Fr_mono fs_X6_beginLaw_3_19__X6_beginLaw_3 k))
    · refine pk_chk (fun _ => ?_)
      exact pk_mono (w_f_X6_beginLaw_3_19 (sA h 12 3 (upd (eA h 12 3) ((p1).toNatClampNeg) (eI h 12 5)))) (fun _ k => Fr_trans (Fr_sA fm_X6_beginLaw_3_1_12_3 (Fr_refl _ h)) (Fr_mono fs_X6_beginLaw_3_19__X6_beginLaw_3 k))
def S_X6_closeLaw_3_19 : CL := []
theorem w_f_X6_closeLaw_3_19 (h : HS) : pk (f_X6_closeLaw_3_19 h) (fun a => Fr S_X6_closeLaw_3_19 h a) := by
  unfold f_X6_closeLaw_3_19
  exact pk_some (Fr_refl _ h)
def S_X6_closeLaw_3 : CL := [(1, 12, 4)]
theorem fm_X6_closeLaw_3_1_12_4 : (1, 12, 4) ∈ S_X6_closeLaw_3 := by decide
theorem fs_X6_closeLaw_3_19__X6_closeLaw_3 : ∀ x ∈ S_X6_closeLaw_3_19, x ∈ S_X6_closeLaw_3 := by decide
theorem w_f_X6_closeLaw_3 (h : HS) (p1 : Int32) : pk (f_X6_closeLaw_3 h p1) (fun a => Fr S_X6_closeLaw_3 h a) := by
  unfold f_X6_closeLaw_3
  refine pk_if (fun _ => ?_) (fun _ => ?_)
  · exact pk_mono (w_f_X6_closeLaw_3_19 h) (fun _ k => Fr_trans (Fr_refl _ h) (Fr_mono fs_X6_closeLaw_3_19__X6_closeLaw_3 k))
  · refine pk_if (fun _ => ?_) (fun _ => ?_)
    · exact pk_mono (w_f_X6_closeLaw_3_19 h) (fun _ k => Fr_trans (Fr_refl _ h) (Fr_mono fs_X6_closeLaw_3_19__X6_closeLaw_3 k))
    · refine pk_chk (fun _ => ?_)
      exact pk_mono (w_f_X6_closeLaw_3_19 (sA h 12 4 (upd (eA h 12 4) ((p1).toNatClampNeg) (eI h 12 5)))) (fun _ k => Fr_trans (Fr_sA fm_X6_closeLaw_3_1_12_4 (Fr_refl _ h)) (Fr_mono fs_X6_closeLaw_3_19__X6_closeLaw_3 k))
def S_X6_firstStep_3_19 : CL := []
theorem w_f_X6_firstStep_3_19 (h : HS) (y0 : Int32) : pk (f_X6_firstStep_3_19 h y0) (fun a => Fr S_X6_firstStep_3_19 h a.2) := by
  unfold f_X6_firstStep_3_19
  exact pk_some (Fr_refl _ h)
def S_X6_firstStep_3_18 : CL := []
theorem fs_X6_firstStep_3_19__X6_firstStep_3_18 : ∀ x ∈ S_X6_firstStep_3_19, x ∈ S_X6_firstStep_3_18 := by decide
theorem w_f_X6_firstStep_3_18 (h : HS) : pk (f_X6_firstStep_3_18 h) (fun a => Fr S_X6_firstStep_3_18 h a.2) := by
  unfold f_X6_firstStep_3_18
  exact pk_mono (w_f_X6_firstStep_3_19 h 0) (fun _ k => Fr_trans (Fr_refl _ h) (Fr_mono fs_X6_firstStep_3_19__X6_firstStep_3_18 k))
def S_X6_firstStep_3 : CL := []
theorem fs_X6_firstStep_3_18__X6_firstStep_3 : ∀ x ∈ S_X6_firstStep_3_18, x ∈ S_X6_firstStep_3 := by decide
theorem fs_X6_firstStep_3_19__X6_firstStep_3 : ∀ x ∈ S_X6_firstStep_3_19, x ∈ S_X6_firstStep_3 := by decide
theorem w_f_X6_firstStep_3 (h : HS) (p1 : Int32) : pk (f_X6_firstStep_3 h p1) (fun a => Fr S_X6_firstStep_3 h a.2) := by
  unfold f_X6_firstStep_3
  refine pk_if (fun _ => ?_) (fun _ => ?_)
  · exact pk_mono (w_f_X6_firstStep_3_18 h) (fun _ k => Fr_trans (Fr_refl _ h) (Fr_mono fs_X6_firstStep_3_18__X6_firstStep_3 k))
  · refine pk_if (fun _ => ?_) (fun _ => ?_)
    · exact pk_mono (w_f_X6_firstStep_3_18 h) (fun _ k => Fr_trans (Fr_refl _ h) (Fr_mono fs_X6_firstStep_3_18__X6_firstStep_3 k))
    · refine pk_chk (fun _ => ?_)
      exact pk_mono (w_f_X6_firstStep_3_19 h ((eA h 12 3) ((p1).toNatClampNeg))) (fun _ k => Fr_trans (Fr_refl _ h) (Fr_mono fs_X6_firstStep_3_19__X6_firstStep_3 k))
def S_X6_stepsEnd_3_19 : CL := []
theorem w_f_X6_stepsEnd_3_19 (h : HS) (y0 : Int32) : pk (f_X6_stepsEnd_3_19 h y0) (fun a => Fr S_X6_stepsEnd_3_19 h a.2) := by
  unfold f_X6_stepsEnd_3_19
  exact pk_some (Fr_refl _ h)
def S_X6_stepsEnd_3_18 : CL := []
theorem fs_X6_stepsEnd_3_19__X6_stepsEnd_3_18 : ∀ x ∈ S_X6_stepsEnd_3_19, x ∈ S_X6_stepsEnd_3_18 := by decide
theorem w_f_X6_stepsEnd_3_18 (h : HS) : pk (f_X6_stepsEnd_3_18 h) (fun a => Fr S_X6_stepsEnd_3_18 h a.2) := by
  unfold f_X6_stepsEnd_3_18
  exact pk_mono (w_f_X6_stepsEnd_3_19 h 0) (fun _ k => Fr_trans (Fr_refl _ h) (Fr_mono fs_X6_stepsEnd_3_19__X6_stepsEnd_3_18 k))
def S_X6_stepsEnd_3 : CL := []
theorem fs_X6_stepsEnd_3_18__X6_stepsEnd_3 : ∀ x ∈ S_X6_stepsEnd_3_18, x ∈ S_X6_stepsEnd_3 := by decide
theorem fs_X6_stepsEnd_3_19__X6_stepsEnd_3 : ∀ x ∈ S_X6_stepsEnd_3_19, x ∈ S_X6_stepsEnd_3 := by decide
theorem w_f_X6_stepsEnd_3 (h : HS) (p1 : Int32) : pk (f_X6_stepsEnd_3 h p1) (fun a => Fr S_X6_stepsEnd_3 h a.2) := by
  unfold f_X6_stepsEnd_3
  refine pk_if (fun _ => ?_) (fun _ => ?_)
  · exact pk_mono (w_f_X6_stepsEnd_3_18 h) (fun _ k => Fr_trans (Fr_refl _ h) (Fr_mono fs_X6_stepsEnd_3_18__X6_stepsEnd_3 k))
  · refine pk_if (fun _ => ?_) (fun _ => ?_)
    · exact pk_mono (w_f_X6_stepsEnd_3_18 h) (fun _ k => Fr_trans (Fr_refl _ h) (Fr_mono fs_X6_stepsEnd_3_18__X6_stepsEnd_3 k))
    · refine pk_chk (fun _ => ?_)
      exact pk_mono (w_f_X6_stepsEnd_3_19 h ((eA h 12 4) ((p1).toNatClampNeg))) (fun _ k => Fr_trans (Fr_refl _ h) (Fr_mono fs_X6_stepsEnd_3_19__X6_stepsEnd_3 k))
def S_X6_addStep_3_32 : CL := []
theorem w_f_X6_addStep_3_32 (h : HS) : pk (f_X6_addStep_3_32 h) (fun a => Fr S_X6_addStep_3_32 h a) := by
  unfold f_X6_addStep_3_32
  exact pk_some (Fr_refl _ h)
def S_X6_addStep_3 : CL := [(0, 12, 5), (1, 12, 2)]
theorem fm_X6_addStep_3_0_12_5 : (0, 12, 5) ∈ S_X6_addStep_3 := by decide
theorem fm_X6_addStep_3_1_12_2 : (1, 12, 2) ∈ S_X6_addStep_3 := by decide
theorem fs_X6_addStep_3_32__X6_addStep_3 : ∀ x ∈ S_X6_addStep_3_32, x ∈ S_X6_addStep_3 := by decide
theorem w_f_X6_addStep_3 (h : HS) (p1 : Int32) : pk (f_X6_addStep_3 h p1) (fun a => Fr S_X6_addStep_3 h a) := by
  unfold f_X6_addStep_3
  refine pk_if (fun _ => ?_) (fun _ => ?_)
  · exact pk_mono (w_f_X6_addStep_3_32 h) (fun _ k => Fr_trans (Fr_refl _ h) (Fr_mono fs_X6_addStep_3_32__X6_addStep_3 k))
  · refine pk_chk (fun _ => ?_)
    exact pk_mono (w_f_X6_addStep_3_32 (sI (sA h 12 2 (upd (eA h 12 2) (((eI h 12 5)).toNatClampNeg) p1)) 12 5 ((eI h 12 5) + 1))) (fun _ k => Fr_trans (Fr_sI fm_X6_addStep_3_0_12_5 (Fr_sA fm_X6_addStep_3_1_12_2 (Fr_refl _ h))) (Fr_mono fs_X6_addStep_3_32__X6_addStep_3 k))
def S_X6_stepAt_3_31 : CL := []
theorem w_f_X6_stepAt_3_31 (h : HS) (y0 : Int32) : pk (f_X6_stepAt_3_31 h y0) (fun a => Fr S_X6_stepAt_3_31 h a.2) := by
  unfold f_X6_stepAt_3_31
  exact pk_some (Fr_refl _ h)
def S_X6_stepAt_3_30 : CL := []
theorem fs_X6_stepAt_3_31__X6_stepAt_3_30 : ∀ x ∈ S_X6_stepAt_3_31, x ∈ S_X6_stepAt_3_30 := by decide
theorem w_f_X6_stepAt_3_30 (h : HS) : pk (f_X6_stepAt_3_30 h) (fun a => Fr S_X6_stepAt_3_30 h a.2) := by
  unfold f_X6_stepAt_3_30
  exact pk_mono (w_f_X6_stepAt_3_31 h 0) (fun _ k => Fr_trans (Fr_refl _ h) (Fr_mono fs_X6_stepAt_3_31__X6_stepAt_3_30 k))
def S_X6_stepAt_3 : CL := []
theorem fs_X6_stepAt_3_30__X6_stepAt_3 : ∀ x ∈ S_X6_stepAt_3_30, x ∈ S_X6_stepAt_3 := by decide
theorem fs_X6_stepAt_3_31__X6_stepAt_3 : ∀ x ∈ S_X6_stepAt_3_31, x ∈ S_X6_stepAt_3 := by decide
theorem w_f_X6_stepAt_3 (h : HS) (p1 : Int32) : pk (f_X6_stepAt_3 h p1) (fun a => Fr S_X6_stepAt_3 h a.2) := by
  unfold f_X6_stepAt_3
  refine pk_if (fun _ => ?_) (fun _ => ?_)
  · exact pk_mono (w_f_X6_stepAt_3_30 h) (fun _ k => Fr_trans (Fr_refl _ h) (Fr_mono fs_X6_stepAt_3_30__X6_stepAt_3 k))
  · refine pk_if (fun _ => ?_) (fun _ => ?_)
    · exact pk_mono (w_f_X6_stepAt_3_30 h) (fun _ k => Fr_trans (Fr_refl _ h) (Fr_mono fs_X6_stepAt_3_30__X6_stepAt_3 k))
    · refine pk_if (fun _ => ?_) (fun _ => ?_)
      · exact pk_mono (w_f_X6_stepAt_3_30 h) (fun _ k => Fr_trans (Fr_refl _ h) (Fr_mono fs_X6_stepAt_3_30__X6_stepAt_3 k))
      · refine pk_chk (fun _ => ?_)
        exact pk_mono (w_f_X6_stepAt_3_31 h ((eA h 12 2) ((p1).toNatClampNeg))) (fun _ k => Fr_trans (Fr_refl _ h) (Fr_mono fs_X6_stepAt_3_31__X6_stepAt_3 k))
def S_X6_clauseField_3_19 : CL := []
theorem w_f_X6_clauseField_3_19 (h : HS) : pk (f_X6_clauseField_3_19 h) (fun a => Fr S_X6_clauseField_3_19 h a.2) := by
  unfold f_X6_clauseField_3_19
  exact pk_some (Fr_refl _ h)
def S_X6_clauseField_3 : CL := []
theorem fs_X6_clauseField_3_19__X6_clauseField_3 : ∀ x ∈ S_X6_clauseField_3_19, x ∈ S_X6_clauseField_3 := by decide
theorem w_f_X6_clauseField_3 (h : HS) (p1 : Int32) (p2 : Int32) : pk (f_X6_clauseField_3 h p1 p2) (fun a => Fr S_X6_clauseField_3 h a.2) := by
  unfold f_X6_clauseField_3
  refine pk_if (fun _ => ?_) (fun _ => ?_)
  · exact pk_mono (w_f_X6_clauseField_3_19 h) (fun _ k => Fr_trans (Fr_refl _ h) (Fr_mono fs_X6_clauseField_3_19__X6_clauseField_3 k))
  · refine pk_if (fun _ => ?_) (fun _ => ?_)
    · exact pk_mono (w_f_X6_clauseField_3_19 h) (fun _ k => Fr_trans (Fr_refl _ h) (Fr_mono fs_X6_clauseField_3_19__X6_clauseField_3 k))
    · refine pk_if (fun _ => ?_) (fun _ => ?_)
      · exact pk_mono (w_f_X6_clauseField_3_19 h) (fun _ k => Fr_trans (Fr_refl _ h) (Fr_mono fs_X6_clauseField_3_19__X6_clauseField_3 k))
      · refine pk_if (fun _ => ?_) (fun _ => ?_)
        · refine pk_chk (fun _ => ?_)
          exact pk_some (Fr_refl _ h)
        · exact pk_mono (w_f_X6_clauseField_3_19 h) (fun _ k => Fr_trans (Fr_refl _ h) (Fr_mono fs_X6_clauseField_3_19__X6_clauseField_3 k))
def S_X6_setClause_3_30 : CL := []
theorem w_f_X6_setClause_3_30 (h : HS) : pk (f_X6_setClause_3_30 h) (fun a => Fr S_X6_setClause_3_30 h a) := by
  unfold f_X6_setClause_3_30
  exact pk_some (Fr_refl _ h)
def S_X6_setClause_3 : CL := [(1, 12, 0)]
theorem fm_X6_setClause_3_1_12_0 : (1, 12, 0) ∈ S_X6_setClause_3 := by decide
theorem fs_X6_setClause_3_30__X6_setClause_3 : ∀ x ∈ S_X6_setClause_3_30, x ∈ S_X6_setClause_3 := by decide
theorem w_f_X6_setClause_3 (h : HS) (p1 : Int32) (p2 : Int32) (p3 : Int32) : pk (f_X6_setClause_3 h p1 p2 p3) (fun a => Fr S_X6_setClause_3 h a) := by
  unfold f_X6_setClause_3
  refine pk_if (fun _ => ?_) (fun _ => ?_)
  · exact pk_mono (w_f_X6_setClause_3_30 h) (fun _ k => Fr_trans (Fr_refl _ h) (Fr_mono fs_X6_setClause_3_30__X6_setClause_3 k))
  · refine pk_if (fun _ => ?_) (fun _ => ?_)
    · exact pk_mono (w_f_X6_setClause_3_30 h) (fun _ k => Fr_trans (Fr_refl _ h) (Fr_mono fs_X6_setClause_3_30__X6_setClause_3 k))
    · refine pk_if (fun _ => ?_) (fun _ => ?_)
      · exact pk_mono (w_f_X6_setClause_3_30 h) (fun _ k => Fr_trans (Fr_refl _ h) (Fr_mono fs_X6_setClause_3_30__X6_setClause_3 k))
      · refine pk_if (fun _ => ?_) (fun _ => ?_)
        · exact pk_mono (w_f_X6_setClause_3_30 h) (fun _ k => Fr_trans (Fr_refl _ h) (Fr_mono fs_X6_setClause_3_30__X6_setClause_3 k))
        · refine pk_chk (fun _ => ?_)
          exact pk_mono (w_f_X6_setClause_3_30 (sA h 12 0 (upd (eA h 12 0) ((((p1 * 4) + p2)).toNatClampNeg) p3))) (fun _ k => Fr_trans (Fr_sA fm_X6_setClause_3_1_12_0 (Fr_refl _ h)) (Fr_mono fs_X6_setClause_3_30__X6_setClause_3 k))
def S_X0_begin_12 : CL := [(3, 7, 2)]
theorem fm_X0_begin_12_3_7_2 : (3, 7, 2) ∈ S_X0_begin_12 := by decide
theorem w_f_X0_begin_40 (k12 : HS → Int32 → Int32 → Int32 → Option HS) (hk_k12 : ∀ (h : HS) (x0 : Int32) (x1 : Int32) (x2 : Int32), pk (k12 h x0 x1 x2) (fun a => Fr S_X0_begin_12 h a)) (h : HS) (x1 : Int32) (x2 : Int32) (x3 : Int32) (y0 : Int64) (y1 : Int32) : pk (f_X0_begin_40 k12 h x1 x2 x3 y0 y1) (fun a => Fr S_X0_begin_12 h a) := by
  unfold f_X0_begin_40
  refine pk_chk (fun _ => ?_)
  exact pk_mono (hk_k12 (sJ h 7 2 (vp_updL (eJ h 7 2) ((y1).toNatClampNeg) y0)) x1 x2 (x3 + 1)) (fun _ k => Fr_trans (Fr_sJ fm_X0_begin_12_3_7_2 (Fr_refl _ h)) k)
theorem w_f_X0_begin_12  : ∀ (n : Nat) (h : HS) (x1 : Int32) (x2 : Int32) (x3 : Int32), pk (f_X0_begin_12  n h x1 x2 x3) (fun a => Fr S_X0_begin_12 h a) := by
  intro n
  induction n with
  | zero => intro h x1 x2 x3; exact pk_none
  | succ n ih =>
    intro h x1 x2 x3
    rw [f_X0_begin_12_s]
    refine pk_if (fun _ => ?_) (fun _ => ?_)
    · exact pk_some (Fr_refl _ h)
    · refine pk_if (fun _ => ?_) (fun _ => ?_)
      · exact pk_mono (w_f_X0_begin_40 (f_X0_begin_12 n) ih h x1 x2 x3 1 x3) (fun _ k => Fr_trans (Fr_refl _ h) k)
      · exact pk_mono (w_f_X0_begin_40 (f_X0_begin_12 n) ih h x1 x2 x3 0 x3) (fun _ k => Fr_trans (Fr_refl _ h) k)
def S_X0_begin : CL := [(0, 7, 0), (2, 7, 1), (3, 7, 2)]
theorem fm_X0_begin_2_7_1 : (2, 7, 1) ∈ S_X0_begin := by decide
theorem fm_X0_begin_0_7_0 : (0, 7, 0) ∈ S_X0_begin := by decide
theorem fs_X0_begin_12__X0_begin : ∀ x ∈ S_X0_begin_12, x ∈ S_X0_begin := by decide
theorem w_f_X0_begin (h : HS) (p1 : Int32) (p2 : Int32) : pk (f_X0_begin h p1 p2) (fun a => Fr S_X0_begin h a) := by
  unfold f_X0_begin
  exact pk_mono (w_f_X0_begin_12 8589934592 (sL (sI h 7 0 0) 7 1 1) p1 p2 0) (fun _ k => Fr_trans (Fr_sL fm_X0_begin_2_7_1 (Fr_sI fm_X0_begin_0_7_0 (Fr_refl _ h))) (Fr_mono fs_X0_begin_12__X0_begin k))
def S_X0_upper_5 : CL := []
theorem w_f_X0_upper_90 (k5 : HS → Int32 → Int64 → Int32 → Option (Int64 × HS)) (hk_k5 : ∀ (h : HS) (x0 : Int32) (x1 : Int64) (x2 : Int32), pk (k5 h x0 x1 x2) (fun a => Fr S_X0_upper_5 h a.2)) (h : HS) (x1 : Int32) (x2 : Int64) (x4 : Int32) : pk (f_X0_upper_90 k5 h x1 x2 x4) (fun a => Fr S_X0_upper_5 h a.2) := by
  unfold f_X0_upper_90
  exact pk_mono (hk_k5 h x1 x2 (x4 + 1)) (fun _ k => Fr_trans (Fr_refl _ h) k)
theorem w_f_X0_upper_80 (k5 : HS → Int32 → Int64 → Int32 → Option (Int64 × HS)) (hk_k5 : ∀ (h : HS) (x0 : Int32) (x1 : Int64) (x2 : Int32), pk (k5 h x0 x1 x2) (fun a => Fr S_X0_upper_5 h a.2)) (h : HS) (x1 : Int32) (x2 : Int64) (x4 : Int32) : pk (f_X0_upper_80 k5 h x1 x2 x4) (fun a => Fr S_X0_upper_5 h a.2) := by
  unfold f_X0_upper_80
  refine pk_chk (fun _ => ?_)
  exact pk_mono (w_f_X0_upper_90 k5 hk_k5 h x1 (x2 + ((eJ h 7 2) ((x4).toNatClampNeg))) x4) (fun _ k => Fr_trans (Fr_refl _ h) k)
theorem w_f_X0_upper_43 (k5 : HS → Int32 → Int64 → Int32 → Option (Int64 × HS)) (hk_k5 : ∀ (h : HS) (x0 : Int32) (x1 : Int64) (x2 : Int32), pk (k5 h x0 x1 x2) (fun a => Fr S_X0_upper_5 h a.2)) (h : HS) (x1 : Int32) (x2 : Int64) (x4 : Int32) (x5 : Int32) (y0 : Int32) : pk (f_X0_upper_43 k5 h x1 x2 x4 x5 y0) (fun a => Fr S_X0_upper_5 h a.2) := by
  unfold f_X0_upper_43
  refine pk_if (fun _ => ?_) (fun _ => ?_)
  · refine pk_if (fun _ => ?_) (fun _ => ?_)
    · exact pk_mono (w_f_X0_upper_90 k5 hk_k5 h x1 x2 x4) (fun _ k => Fr_trans (Fr_refl _ h) k)
    · exact pk_mono (w_f_X0_upper_80 k5 hk_k5 h x1 x2 x4) (fun _ k => Fr_trans (Fr_refl _ h) k)
  · refine pk_if (fun _ => ?_) (fun _ => ?_)
    · refine pk_if (fun _ => ?_) (fun _ => ?_)
      · exact pk_mono (w_f_X0_upper_90 k5 hk_k5 h x1 x2 x4) (fun _ k => Fr_trans (Fr_refl _ h) k)
      · exact pk_mono (w_f_X0_upper_80 k5 hk_k5 h x1 x2 x4) (fun _ k => Fr_trans (Fr_refl _ h) k)
    · refine pk_if (fun _ => ?_) (fun _ => ?_)
      · exact pk_mono (w_f_X0_upper_90 k5 hk_k5 h x1 x2 x4) (fun _ k => Fr_trans (Fr_refl _ h) k)
      · refine pk_if (fun _ => ?_) (fun _ => ?_)
        · exact pk_mono (w_f_X0_upper_80 k5 hk_k5 h x1 x2 x4) (fun _ k => Fr_trans (Fr_refl _ h) k)
        · exact pk_mono (w_f_X0_upper_90 k5 hk_k5 h x1 x2 x4) (fun _ k => Fr_trans (Fr_refl _ h) k)
theorem w_f_X0_upper_28 (k5 : HS → Int32 → Int64 → Int32 → Option (Int64 × HS)) (hk_k5 : ∀ (h : HS) (x0 : Int32) (x1 : Int64) (x2 : Int32), pk (k5 h x0 x1 x2) (fun a => Fr S_X0_upper_5 h a.2)) (h : HS) (x1 : Int32) (x2 : Int64) (x4 : Int32) (y0 : Int32) : pk (f_X0_upper_28 k5 h x1 x2 x4 y0) (fun a => Fr S_X0_upper_5 h a.2) := by
  unfold f_X0_upper_28
  refine pk_if (fun _ => ?_) (fun _ => ?_)
  · exact pk_mono (w_f_X0_upper_43 k5 hk_k5 h x1 x2 x4 y0 1) (fun _ k => Fr_trans (Fr_refl _ h) k)
  · exact pk_mono (w_f_X0_upper_43 k5 hk_k5 h x1 x2 x4 y0 0) (fun _ k => Fr_trans (Fr_refl _ h) k)
theorem w_f_X0_upper_5  : ∀ (n : Nat) (h : HS) (x1 : Int32) (x2 : Int64) (x4 : Int32), pk (f_X0_upper_5  n h x1 x2 x4) (fun a => Fr S_X0_upper_5 h a.2) := by
  intro n
  induction n with
  | zero => intro h x1 x2 x4; exact pk_none
  | succ n ih =>
    intro h x1 x2 x4
    rw [f_X0_upper_5_s]
    refine pk_if (fun _ => ?_) (fun _ => ?_)
    · exact pk_some (Fr_refl _ h)
    · refine pk_if (fun _ => ?_) (fun _ => ?_)
      · exact pk_mono (w_f_X0_upper_28 (f_X0_upper_5 n) ih h x1 x2 x4 1) (fun _ k => Fr_trans (Fr_refl _ h) k)
      · exact pk_mono (w_f_X0_upper_28 (f_X0_upper_5 n) ih h x1 x2 x4 0) (fun _ k => Fr_trans (Fr_refl _ h) k)
def S_X0_upper : CL := []
theorem fs_X0_upper_5__X0_upper : ∀ x ∈ S_X0_upper_5, x ∈ S_X0_upper := by decide
theorem w_f_X0_upper (h : HS) (p1 : Int32) : pk (f_X0_upper h p1) (fun a => Fr S_X0_upper h a.2) := by
  unfold f_X0_upper
  exact pk_mono (w_f_X0_upper_5 8589934592 h p1 0 0) (fun _ k => Fr_trans (Fr_refl _ h) (Fr_mono fs_X0_upper_5__X0_upper k))
def S_X3_isEnough_29 : CL := []
theorem w_f_X3_isEnough_29 (h : HS) (y0 : Int32) : pk (f_X3_isEnough_29 h y0) (fun a => Fr S_X3_isEnough_29 h a.2) := by
  unfold f_X3_isEnough_29
  refine pk_chk (fun _ => ?_)
  exact pk_some (Fr_refl _ h)
def S_X3_isEnough : CL := []
theorem fs_X3_isEnough_29__X3_isEnough : ∀ x ∈ S_X3_isEnough_29, x ∈ S_X3_isEnough := by decide
theorem w_f_X3_isEnough (h : HS) (p1 : Int64) : pk (f_X3_isEnough h p1) (fun a => Fr S_X3_isEnough h a.2) := by
  unfold f_X3_isEnough
  refine pk_if (fun _ => ?_) (fun _ => ?_)
  · exact pk_mono (w_f_X3_isEnough_29 h 0) (fun _ k => Fr_trans (Fr_refl _ h) (Fr_mono fs_X3_isEnough_29__X3_isEnough k))
  · exact pk_mono (w_f_X3_isEnough_29 h 1) (fun _ k => Fr_trans (Fr_refl _ h) (Fr_mono fs_X3_isEnough_29__X3_isEnough k))
def S_X3_isBetter_21 : CL := []
theorem w_f_X3_isBetter_21 (h : HS) (y0 : Int32) : pk (f_X3_isBetter_21 h y0) (fun a => Fr S_X3_isBetter_21 h a.2) := by
  unfold f_X3_isBetter_21
  refine pk_chk (fun _ => ?_)
  exact pk_some (Fr_refl _ h)
def S_X3_isBetter_16 : CL := []
theorem fs_X3_isBetter_21__X3_isBetter_16 : ∀ x ∈ S_X3_isBetter_21, x ∈ S_X3_isBetter_16 := by decide
theorem w_f_X3_isBetter_16 (h : HS) : pk (f_X3_isBetter_16 h) (fun a => Fr S_X3_isBetter_16 h a.2) := by
  unfold f_X3_isBetter_16
  exact pk_mono (w_f_X3_isBetter_21 h 1) (fun _ k => Fr_trans (Fr_refl _ h) (Fr_mono fs_X3_isBetter_21__X3_isBetter_16 k))
def S_X3_isBetter : CL := []
theorem fs_X3_isBetter_16__X3_isBetter : ∀ x ∈ S_X3_isBetter_16, x ∈ S_X3_isBetter := by decide
theorem fs_X3_isBetter_21__X3_isBetter : ∀ x ∈ S_X3_isBetter_21, x ∈ S_X3_isBetter := by decide
theorem w_f_X3_isBetter (h : HS) (p1 : Int64) : pk (f_X3_isBetter h p1) (fun a => Fr S_X3_isBetter h a.2) := by
  unfold f_X3_isBetter
  refine pk_if (fun _ => ?_) (fun _ => ?_)
  · exact pk_mono (w_f_X3_isBetter_16 h) (fun _ k => Fr_trans (Fr_refl _ h) (Fr_mono fs_X3_isBetter_16__X3_isBetter k))
  · refine pk_if (fun _ => ?_) (fun _ => ?_)
    · exact pk_mono (w_f_X3_isBetter_21 h 0) (fun _ k => Fr_trans (Fr_refl _ h) (Fr_mono fs_X3_isBetter_21__X3_isBetter k))
    · exact pk_mono (w_f_X3_isBetter_16 h) (fun _ k => Fr_trans (Fr_refl _ h) (Fr_mono fs_X3_isBetter_16__X3_isBetter k))
def S_X3_keep_83 : CL := []
theorem w_f_X3_keep_83 (h : HS) : pk (f_X3_keep_83 h) (fun a => Fr S_X3_keep_83 h a) := by
  unfold f_X3_keep_83
  exact pk_some (Fr_refl _ h)
def S_X3_keep_23 : CL := [(1, 8, 6), (1, 8, 7)]
theorem fm_X3_keep_23_1_8_7 : (1, 8, 7) ∈ S_X3_keep_23 := by decide
theorem fm_X3_keep_23_1_8_6 : (1, 8, 6) ∈ S_X3_keep_23 := by decide
theorem fs_X3_keep_83__X3_keep_23 : ∀ x ∈ S_X3_keep_83, x ∈ S_X3_keep_23 := by decide
theorem w_f_X3_keep_23  : ∀ (n : Nat) (h : HS) (x4 : Int32), pk (f_X3_keep_23  n h x4) (fun a => Fr S_X3_keep_23 h a) := by
  intro n
  induction n with
  | zero => intro h x4; exact pk_none
  | succ n ih =>
    intro h x4
    rw [f_X3_keep_23_s]
    refine pk_if (fun _ => ?_) (fun _ => ?_)
    · exact pk_mono (w_f_X3_keep_83 h) (fun _ k => Fr_trans (Fr_refl _ h) (Fr_mono fs_X3_keep_83__X3_keep_23 k))
    · refine pk_if (fun _ => ?_) (fun _ => ?_)
      · exact pk_mono (w_f_X3_keep_83 h) (fun _ k => Fr_trans (Fr_refl _ h) (Fr_mono fs_X3_keep_83__X3_keep_23 k))
      · refine pk_chk (fun _ => ?_)
        refine pk_chk (fun _ => ?_)
        refine pk_chk (fun _ => ?_)
        refine pk_chk (fun _ => ?_)
        refine pk_chk (fun _ => ?_)
        exact pk_mono (ih (sA (sA h 8 6 (upd (eA h 8 6) ((x4).toNatClampNeg) ((eA h 8 3) ((x4).toNatClampNeg)))) 8 7 (upd (eA h 8 7) ((x4).toNatClampNeg) ((((eA h 8 5) ((x4).toNatClampNeg)) * 10) + ((eA h 8 4) ((x4).toNatClampNeg))))) (x4 + 1)) (fun _ k => Fr_trans (Fr_sA fm_X3_keep_23_1_8_7 (Fr_sA fm_X3_keep_23_1_8_6 (Fr_refl _ h))) k)
def S_X3_keep : CL := [(0, 8, 12), (0, 8, 13), (0, 8, 15), (1, 8, 6), (1, 8, 7), (2, 8, 14)]
theorem fm_X3_keep_0_8_15 : (0, 8, 15) ∈ S_X3_keep := by decide
theorem fm_X3_keep_2_8_14 : (2, 8, 14) ∈ S_X3_keep := by decide
theorem fm_X3_keep_0_8_13 : (0, 8, 13) ∈ S_X3_keep := by decide
theorem fm_X3_keep_0_8_12 : (0, 8, 12) ∈ S_X3_keep := by decide
theorem fs_X3_keep_23__X3_keep : ∀ x ∈ S_X3_keep_23, x ∈ S_X3_keep := by decide
theorem w_f_X3_keep (h : HS) (p1 : Int64) (p2 : Int32) : pk (f_X3_keep h p1 p2) (fun a => Fr S_X3_keep h a) := by
  unfold f_X3_keep
  exact pk_mono (w_f_X3_keep_23 8589934592 (sI (sL (sI (sI h 8 12 1) 8 13 1) 8 14 p1) 8 15 p2) 0) (fun _ k => Fr_trans (Fr_sI fm_X3_keep_0_8_15 (Fr_sL fm_X3_keep_2_8_14 (Fr_sI fm_X3_keep_0_8_13 (Fr_sI fm_X3_keep_0_8_12 (Fr_refl _ h))))) (Fr_mono fs_X3_keep_23__X3_keep k))
def S_X3_choiceOf_38 : CL := []
theorem w_f_X3_choiceOf_38 (h : HS) : pk (f_X3_choiceOf_38 h) (fun a => Fr S_X3_choiceOf_38 h a.2) := by
  unfold f_X3_choiceOf_38
  exact pk_some (Fr_refl _ h)
def S_X3_choiceOf_2 : CL := []
theorem fs_X3_choiceOf_38__X3_choiceOf_2 : ∀ x ∈ S_X3_choiceOf_38, x ∈ S_X3_choiceOf_2 := by decide
theorem w_f_X3_choiceOf_2  : ∀ (n : Nat) (h : HS) (x1 : Int32) (x2 : Int32), pk (f_X3_choiceOf_2  n h x1 x2) (fun a => Fr S_X3_choiceOf_2 h a.2) := by
  intro n
  induction n with
  | zero => intro h x1 x2; exact pk_none
  | succ n ih =>
    intro h x1 x2
    rw [f_X3_choiceOf_2_s]
    refine pk_if (fun _ => ?_) (fun _ => ?_)
    · exact pk_mono (w_f_X3_choiceOf_38 h) (fun _ k => Fr_trans (Fr_refl _ h) (Fr_mono fs_X3_choiceOf_38__X3_choiceOf_2 k))
    · refine pk_if (fun _ => ?_) (fun _ => ?_)
      · exact pk_mono (w_f_X3_choiceOf_38 h) (fun _ k => Fr_trans (Fr_refl _ h) (Fr_mono fs_X3_choiceOf_38__X3_choiceOf_2 k))
      · refine pk_chk (fun _ => ?_)
        refine pk_if (fun _ => ?_) (fun _ => ?_)
        · refine pk_chk (fun _ => ?_)
          exact pk_some (Fr_refl _ h)
        · exact pk_mono (ih h x1 (x2 + 1)) (fun _ k => Fr_trans (Fr_refl _ h) k)
def S_X3_choiceOf : CL := []
theorem fs_X3_choiceOf_2__X3_choiceOf : ∀ x ∈ S_X3_choiceOf_2, x ∈ S_X3_choiceOf := by decide
theorem w_f_X3_choiceOf (h : HS) (p1 : Int32) : pk (f_X3_choiceOf h p1) (fun a => Fr S_X3_choiceOf h a.2) := by
  unfold f_X3_choiceOf
  exact pk_mono (w_f_X3_choiceOf_2 8589934592 h p1 0) (fun _ k => Fr_trans (Fr_refl _ h) (Fr_mono fs_X3_choiceOf_2__X3_choiceOf k))
def S_X3_missOf_f_158 : CL := []
theorem w_f_X3_missOf_f_158 (h : HS) (x2 : Int64) (x4 : Int64) (x6 : Int64) (x8 : Int64) (x10 : Int64) : pk (f_X3_missOf_f_158 h x2 x4 x6 x8 x10) (fun a => Fr S_X3_missOf_f_158 h a.2) := by
  unfold f_X3_missOf_f_158
  exact pk_some (Fr_refl _ h)
def S_X3_missOf_f_17 : CL := []
theorem w_f_X3_missOf_f_152 (k17 : HS → Int64 → Int64 → Int64 → Int64 → Int64 → Int32 → Option (Int64 × HS)) (hk_k17 : ∀ (h : HS) (x0 : Int64) (x1 : Int64) (x2 : Int64) (x3 : Int64) (x4 : Int64) (x5 : Int32), pk (k17 h x0 x1 x2 x3 x4 x5) (fun a => Fr S_X3_missOf_f_17 h a.2)) (h : HS) (x2 : Int64) (x4 : Int64) (x6 : Int64) (x8 : Int64) (x10 : Int64) (x12 : Int32) : pk (f_X3_missOf_f_152 k17 h x2 x4 x6 x8 x10 x12) (fun a => Fr S_X3_missOf_f_17 h a.2) := by
  unfold f_X3_missOf_f_152
  exact pk_mono (hk_k17 h x2 x4 x6 x8 x10 (x12 + 1)) (fun _ k => Fr_trans (Fr_refl _ h) k)
theorem w_f_X3_missOf_f_85 (k17 : HS → Int64 → Int64 → Int64 → Int64 → Int64 → Int32 → Option (Int64 × HS)) (hk_k17 : ∀ (h : HS) (x0 : Int64) (x1 : Int64) (x2 : Int64) (x3 : Int64) (x4 : Int64) (x5 : Int32), pk (k17 h x0 x1 x2 x3 x4 x5) (fun a => Fr S_X3_missOf_f_17 h a.2)) (h : HS) (x2 : Int64) (x4 : Int64) (x6 : Int64) (x8 : Int64) (x10 : Int64) (x12 : Int32) (y0 : Int32) : pk (f_X3_missOf_f_85 k17 h x2 x4 x6 x8 x10 x12 y0) (fun a => Fr S_X3_missOf_f_17 h a.2) := by
  unfold f_X3_missOf_f_85
  refine pk_chk (fun _ => ?_)
  refine pk_if (fun _ => ?_) (fun _ => ?_)
  · exact pk_mono (w_f_X3_missOf_f_152 k17 hk_k17 h (x2 * ((y0).toInt64)) x4 x6 x8 x10 x12) (fun _ k => Fr_trans (Fr_refl _ h) k)
  · refine pk_chk (fun _ => ?_)
    refine pk_if (fun _ => ?_) (fun _ => ?_)
    · exact pk_mono (w_f_X3_missOf_f_152 k17 hk_k17 h x2 (x4 * ((y0).toInt64)) (x6 * 100) x8 x10 x12) (fun _ k => Fr_trans (Fr_refl _ h) k)
    · exact pk_mono (w_f_X3_missOf_f_152 k17 hk_k17 h x2 x4 x6 (x8 * ((y0).toInt64)) (x10 * 100) x12) (fun _ k => Fr_trans (Fr_refl _ h) k)
theorem w_f_X3_missOf_f_83 (k17 : HS → Int64 → Int64 → Int64 → Int64 → Int64 → Int32 → Option (Int64 × HS)) (hk_k17 : ∀ (h : HS) (x0 : Int64) (x1 : Int64) (x2 : Int64) (x3 : Int64) (x4 : Int64) (x5 : Int32), pk (k17 h x0 x1 x2 x3 x4 x5) (fun a => Fr S_X3_missOf_f_17 h a.2)) (h : HS) (x2 : Int64) (x4 : Int64) (x6 : Int64) (x8 : Int64) (x10 : Int64) (x12 : Int32) : pk (f_X3_missOf_f_83 k17 h x2 x4 x6 x8 x10 x12) (fun a => Fr S_X3_missOf_f_17 h a.2) := by
  unfold f_X3_missOf_f_83
  exact pk_mono (w_f_X3_missOf_f_85 k17 hk_k17 h x2 x4 x6 x8 x10 x12 100) (fun _ k => Fr_trans (Fr_refl _ h) k)
theorem fs_X3_missOf_f_158__X3_missOf_f_17 : ∀ x ∈ S_X3_missOf_f_158, x ∈ S_X3_missOf_f_17 := by decide
theorem w_f_X3_missOf_f_17  : ∀ (n : Nat) (h : HS) (x2 : Int64) (x4 : Int64) (x6 : Int64) (x8 : Int64) (x10 : Int64) (x12 : Int32), pk (f_X3_missOf_f_17  n h x2 x4 x6 x8 x10 x12) (fun a => Fr S_X3_missOf_f_17 h a.2) := by
  intro n
  induction n with
  | zero => intro h x2 x4 x6 x8 x10 x12; exact pk_none
  | succ n ih =>
    intro h x2 x4 x6 x8 x10 x12
    rw [f_X3_missOf_f_17_s]
    refine pk_if (fun _ => ?_) (fun _ => ?_)
    · exact pk_mono (w_f_X3_missOf_f_158 h x2 x4 x6 x8 x10) (fun _ k => Fr_trans (Fr_refl _ h) (Fr_mono fs_X3_missOf_f_158__X3_missOf_f_17 k))
    · refine pk_if (fun _ => ?_) (fun _ => ?_)
      · exact pk_mono (w_f_X3_missOf_f_158 h x2 x4 x6 x8 x10) (fun _ k => Fr_trans (Fr_refl _ h) (Fr_mono fs_X3_missOf_f_158__X3_missOf_f_17 k))
      · refine pk_chk (fun _ => ?_)
        refine pk_chk (fun _ => ?_)
        refine pk_chk (fun _ => ?_)
        refine pk_if (fun _ => ?_) (fun _ => ?_)
        · exact pk_mono (w_f_X3_missOf_f_83 (f_X3_missOf_f_17 n) ih h x2 x4 x6 x8 x10 x12) (fun _ k => Fr_trans (Fr_refl _ h) k)
        · refine pk_if (fun _ => ?_) (fun _ => ?_)
          · exact pk_mono (w_f_X3_missOf_f_83 (f_X3_missOf_f_17 n) ih h x2 x4 x6 x8 x10 x12) (fun _ k => Fr_trans (Fr_refl _ h) k)
          · refine pk_chk (fun _ => ?_)
            exact pk_mono (w_f_X3_missOf_f_85 (f_X3_missOf_f_17 n) ih h x2 x4 x6 x8 x10 x12 (100 - ((eA h 8 0) ((((((((eA h 8 3) ((x12).toNatClampNeg)) * 3) + ((eA h 8 4) ((x12).toNatClampNeg))) * 5) + ((eA h 8 5) ((x12).toNatClampNeg)))).toNatClampNeg)))) (fun _ k => Fr_trans (Fr_refl _ h) k)
def S_X3_missOf_f : CL := []
theorem fs_X3_missOf_f_17__X3_missOf_f : ∀ x ∈ S_X3_missOf_f_17, x ∈ S_X3_missOf_f := by decide
theorem w_f_X3_missOf_f (h : HS) : pk (f_X3_missOf_f h) (fun a => Fr S_X3_missOf_f h a.2) := by
  unfold f_X3_missOf_f
  exact pk_mono (w_f_X3_missOf_f_17 8589934592 h 1 1 1 1 1 0) (fun _ k => Fr_trans (Fr_refl _ h) (Fr_mono fs_X3_missOf_f_17__X3_missOf_f k))
def S_X3_missOf_r_158 : CL := []
theorem w_f_X3_missOf_r_158 (h : HS) (x2 : Int64) (x4 : Int64) (x6 : Int64) (x8 : Int64) (x10 : Int64) : pk (f_X3_missOf_r_158 h x2 x4 x6 x8 x10) (fun a => Fr S_X3_missOf_r_158 h a.2) := by
  unfold f_X3_missOf_r_158
  exact pk_some (Fr_refl _ h)
def S_X3_missOf_r_17 : CL := []
theorem w_f_X3_missOf_r_152 (k17 : HS → Int64 → Int64 → Int64 → Int64 → Int64 → Int32 → Option (Int64 × HS)) (hk_k17 : ∀ (h : HS) (x0 : Int64) (x1 : Int64) (x2 : Int64) (x3 : Int64) (x4 : Int64) (x5 : Int32), pk (k17 h x0 x1 x2 x3 x4 x5) (fun a => Fr S_X3_missOf_r_17 h a.2)) (h : HS) (x2 : Int64) (x4 : Int64) (x6 : Int64) (x8 : Int64) (x10 : Int64) (x12 : Int32) : pk (f_X3_missOf_r_152 k17 h x2 x4 x6 x8 x10 x12) (fun a => Fr S_X3_missOf_r_17 h a.2) := by
  unfold f_X3_missOf_r_152
  exact pk_mono (hk_k17 h x2 x4 x6 x8 x10 (x12 + 1)) (fun _ k => Fr_trans (Fr_refl _ h) k)
theorem w_f_X3_missOf_r_85 (k17 : HS → Int64 → Int64 → Int64 → Int64 → Int64 → Int32 → Option (Int64 × HS)) (hk_k17 : ∀ (h : HS) (x0 : Int64) (x1 : Int64) (x2 : Int64) (x3 : Int64) (x4 : Int64) (x5 : Int32), pk (k17 h x0 x1 x2 x3 x4 x5) (fun a => Fr S_X3_missOf_r_17 h a.2)) (h : HS) (x2 : Int64) (x4 : Int64) (x6 : Int64) (x8 : Int64) (x10 : Int64) (x12 : Int32) (y0 : Int32) : pk (f_X3_missOf_r_85 k17 h x2 x4 x6 x8 x10 x12 y0) (fun a => Fr S_X3_missOf_r_17 h a.2) := by
  unfold f_X3_missOf_r_85
  refine pk_chk (fun _ => ?_)
  refine pk_if (fun _ => ?_) (fun _ => ?_)
  · exact pk_mono (w_f_X3_missOf_r_152 k17 hk_k17 h (x2 * ((y0).toInt64)) x4 x6 x8 x10 x12) (fun _ k => Fr_trans (Fr_refl _ h) k)
  · refine pk_chk (fun _ => ?_)
    refine pk_if (fun _ => ?_) (fun _ => ?_)
    · exact pk_mono (w_f_X3_missOf_r_152 k17 hk_k17 h x2 (x4 * ((y0).toInt64)) (x6 * 100) x8 x10 x12) (fun _ k => Fr_trans (Fr_refl _ h) k)
    · exact pk_mono (w_f_X3_missOf_r_152 k17 hk_k17 h x2 x4 x6 (x8 * ((y0).toInt64)) (x10 * 100) x12) (fun _ k => Fr_trans (Fr_refl _ h) k)
theorem w_f_X3_missOf_r_83 (k17 : HS → Int64 → Int64 → Int64 → Int64 → Int64 → Int32 → Option (Int64 × HS)) (hk_k17 : ∀ (h : HS) (x0 : Int64) (x1 : Int64) (x2 : Int64) (x3 : Int64) (x4 : Int64) (x5 : Int32), pk (k17 h x0 x1 x2 x3 x4 x5) (fun a => Fr S_X3_missOf_r_17 h a.2)) (h : HS) (x2 : Int64) (x4 : Int64) (x6 : Int64) (x8 : Int64) (x10 : Int64) (x12 : Int32) : pk (f_X3_missOf_r_83 k17 h x2 x4 x6 x8 x10 x12) (fun a => Fr S_X3_missOf_r_17 h a.2) := by
  unfold f_X3_missOf_r_83
  exact pk_mono (w_f_X3_missOf_r_85 k17 hk_k17 h x2 x4 x6 x8 x10 x12 100) (fun _ k => Fr_trans (Fr_refl _ h) k)
theorem fs_X3_missOf_r_158__X3_missOf_r_17 : ∀ x ∈ S_X3_missOf_r_158, x ∈ S_X3_missOf_r_17 := by decide
theorem w_f_X3_missOf_r_17  : ∀ (n : Nat) (h : HS) (x2 : Int64) (x4 : Int64) (x6 : Int64) (x8 : Int64) (x10 : Int64) (x12 : Int32), pk (f_X3_missOf_r_17  n h x2 x4 x6 x8 x10 x12) (fun a => Fr S_X3_missOf_r_17 h a.2) := by
  intro n
  induction n with
  | zero => intro h x2 x4 x6 x8 x10 x12; exact pk_none
  | succ n ih =>
    intro h x2 x4 x6 x8 x10 x12
    rw [f_X3_missOf_r_17_s]
    refine pk_if (fun _ => ?_) (fun _ => ?_)
    · exact pk_mono (w_f_X3_missOf_r_158 h x2 x4 x6 x8 x10) (fun _ k => Fr_trans (Fr_refl _ h) (Fr_mono fs_X3_missOf_r_158__X3_missOf_r_17 k))
    · refine pk_if (fun _ => ?_) (fun _ => ?_)
      · exact pk_mono (w_f_X3_missOf_r_158 h x2 x4 x6 x8 x10) (fun _ k => Fr_trans (Fr_refl _ h) (Fr_mono fs_X3_missOf_r_158__X3_missOf_r_17 k))
      · refine pk_chk (fun _ => ?_)
        refine pk_chk (fun _ => ?_)
        refine pk_chk (fun _ => ?_)
        refine pk_if (fun _ => ?_) (fun _ => ?_)
        · exact pk_mono (w_f_X3_missOf_r_83 (f_X3_missOf_r_17 n) ih h x2 x4 x6 x8 x10 x12) (fun _ k => Fr_trans (Fr_refl _ h) k)
        · refine pk_if (fun _ => ?_) (fun _ => ?_)
          · exact pk_mono (w_f_X3_missOf_r_83 (f_X3_missOf_r_17 n) ih h x2 x4 x6 x8 x10 x12) (fun _ k => Fr_trans (Fr_refl _ h) k)
          · refine pk_chk (fun _ => ?_)
            exact pk_mono (w_f_X3_missOf_r_85 (f_X3_missOf_r_17 n) ih h x2 x4 x6 x8 x10 x12 (100 - ((eA h 8 1) ((((((((eA h 8 3) ((x12).toNatClampNeg)) * 3) + ((eA h 8 4) ((x12).toNatClampNeg))) * 5) + ((eA h 8 5) ((x12).toNatClampNeg)))).toNatClampNeg)))) (fun _ k => Fr_trans (Fr_refl _ h) k)
def S_X3_missOf_r : CL := []
theorem fs_X3_missOf_r_17__X3_missOf_r : ∀ x ∈ S_X3_missOf_r_17, x ∈ S_X3_missOf_r := by decide
theorem w_f_X3_missOf_r (h : HS) : pk (f_X3_missOf_r h) (fun a => Fr S_X3_missOf_r h a.2) := by
  unfold f_X3_missOf_r
  exact pk_mono (w_f_X3_missOf_r_17 8589934592 h 1 1 1 1 1 0) (fun _ k => Fr_trans (Fr_refl _ h) (Fr_mono fs_X3_missOf_r_17__X3_missOf_r k))
def S_X3_compare_113 : CL := []
theorem w_f_X3_compare_113 (h : HS) : pk (f_X3_compare_113 h) (fun a => Fr S_X3_compare_113 h a) := by
  unfold f_X3_compare_113
  exact pk_some (Fr_refl _ h)
def S_X3_compare_107 : CL := [(0, 8, 12), (0, 8, 13), (0, 8, 15), (1, 8, 6), (1, 8, 7), (2, 8, 14)]
theorem fs_X3_keep__X3_compare_107 : ∀ x ∈ S_X3_keep, x ∈ S_X3_compare_107 := by decide
theorem fs_X3_compare_113__X3_compare_107 : ∀ x ∈ S_X3_compare_113, x ∈ S_X3_compare_107 := by decide
theorem w_f_X3_compare_107 (h : HS) (x1 : Int64) (x3 : Int32) : pk (f_X3_compare_107 h x1 x3) (fun a => Fr S_X3_compare_107 h a) := by
  unfold f_X3_compare_107
  refine pk_ob1 (w_f_X3_keep h x1 x3) (fun h_14 k_1 => ?_)
  replace k_1 := Fr_trans (Fr_refl _ h) (Fr_mono fs_X3_keep__X3_compare_107 k_1)
  exact pk_mono (w_f_X3_compare_113 h_14) (fun _ k => Fr_trans k_1 (Fr_mono fs_X3_compare_113__X3_compare_107 k))
def S_X3_compare_75 : CL := [(0, 8, 12), (0, 8, 13), (0, 8, 15), (1, 8, 6), (1, 8, 7), (2, 8, 14)]
theorem fs_X3_isBetter__X3_compare_75 : ∀ x ∈ S_X3_isBetter, x ∈ S_X3_compare_75 := by decide
theorem fs_X3_compare_113__X3_compare_75 : ∀ x ∈ S_X3_compare_113, x ∈ S_X3_compare_75 := by decide
theorem fs_X3_compare_107__X3_compare_75 : ∀ x ∈ S_X3_compare_107, x ∈ S_X3_compare_75 := by decide
theorem w_f_X3_compare_75 (h : HS) (x1 : Int64) (x3 : Int32) : pk (f_X3_compare_75 h x1 x3) (fun a => Fr S_X3_compare_75 h a) := by
  unfold f_X3_compare_75
  refine pk_ob2 (w_f_X3_isBetter h x1) (fun r_9 h_9 k_1 => ?_)
  replace k_1 := Fr_trans (Fr_refl _ h) (Fr_mono fs_X3_isBetter__X3_compare_75 k_1)
  refine pk_if (fun _ => ?_) (fun _ => ?_)
  · refine pk_if (fun _ => ?_) (fun _ => ?_)
    · exact pk_mono (w_f_X3_compare_113 h_9) (fun _ k => Fr_trans k_1 (Fr_mono fs_X3_compare_113__X3_compare_75 k))
    · refine pk_if (fun _ => ?_) (fun _ => ?_)
      · refine pk_if (fun _ => ?_) (fun _ => ?_)
        · exact pk_mono (w_f_X3_compare_113 h_9) (fun _ k => Fr_trans k_1 (Fr_mono fs_X3_compare_113__X3_compare_75 k))
        · exact pk_mono (w_f_X3_compare_107 h_9 x1 x3) (fun _ k => Fr_trans k_1 (Fr_mono fs_X3_compare_107__X3_compare_75 k))
      · exact pk_mono (w_f_X3_compare_113 h_9) (fun _ k => Fr_trans k_1 (Fr_mono fs_X3_compare_113__X3_compare_75 k))
  · exact pk_mono (w_f_X3_compare_107 h_9 x1 x3) (fun _ k => Fr_trans k_1 (Fr_mono fs_X3_compare_107__X3_compare_75 k))
def S_X3_compare_30 : CL := [(0, 8, 12), (0, 8, 13), (0, 8, 15), (1, 8, 6), (1, 8, 7), (2, 8, 14)]
theorem fs_X3_compare_75__X3_compare_30 : ∀ x ∈ S_X3_compare_75, x ∈ S_X3_compare_30 := by decide
theorem w_f_X3_compare_30  : ∀ (n : Nat) (h : HS) (x1 : Int64) (x3 : Int32) (x4 : Int32), pk (f_X3_compare_30  n h x1 x3 x4) (fun a => Fr S_X3_compare_30 h a) := by
  intro n
  induction n with
  | zero => intro h x1 x3 x4; exact pk_none
  | succ n ih =>
    intro h x1 x3 x4
    rw [f_X3_compare_30_s]
    refine pk_if (fun _ => ?_) (fun _ => ?_)
    · exact pk_mono (w_f_X3_compare_75 h x1 x3) (fun _ k => Fr_trans (Fr_refl _ h) (Fr_mono fs_X3_compare_75__X3_compare_30 k))
    · refine pk_if (fun _ => ?_) (fun _ => ?_)
      · exact pk_mono (w_f_X3_compare_75 h x1 x3) (fun _ k => Fr_trans (Fr_refl _ h) (Fr_mono fs_X3_compare_75__X3_compare_30 k))
      · refine pk_chk (fun _ => ?_)
        refine pk_chk (fun _ => ?_)
        exact pk_mono (ih h x1 (((x3 * 100) + (((eA h 8 5) ((x4).toNatClampNeg)) * 10)) + ((eA h 8 4) ((x4).toNatClampNeg))) (x4 + 1)) (fun _ k => Fr_trans (Fr_refl _ h) k)
def S_X3_compare : CL := [(0, 8, 12), (0, 8, 13), (0, 8, 15), (1, 8, 6), (1, 8, 7), (2, 8, 14)]
theorem fs_X3_missOf_f__X3_compare : ∀ x ∈ S_X3_missOf_f, x ∈ S_X3_compare := by decide
theorem fs_X3_isEnough__X3_compare : ∀ x ∈ S_X3_isEnough, x ∈ S_X3_compare := by decide
theorem fs_X3_missOf_r__X3_compare : ∀ x ∈ S_X3_missOf_r, x ∈ S_X3_compare := by decide
theorem fs_X3_compare_30__X3_compare : ∀ x ∈ S_X3_compare_30, x ∈ S_X3_compare := by decide
theorem w_f_X3_compare (h : HS) : pk (f_X3_compare h) (fun a => Fr S_X3_compare h a) := by
  unfold f_X3_compare
  refine pk_ob2 (w_f_X3_missOf_f h) (fun r_1 h_1 k_1 => ?_)
  replace k_1 := Fr_trans (Fr_refl _ h) (Fr_mono fs_X3_missOf_f__X3_compare k_1)
  refine pk_ob2 (w_f_X3_isEnough h_1 r_1) (fun r_2 h_2 k_2 => ?_)
  replace k_2 := Fr_trans k_1 (Fr_mono fs_X3_isEnough__X3_compare k_2)
  refine pk_if (fun _ => ?_) (fun _ => ?_)
  · exact pk_some k_2
  · refine pk_ob2 (w_f_X3_missOf_r h_2) (fun r_4 h_4 k_3 => ?_)
    replace k_3 := Fr_trans k_2 (Fr_mono fs_X3_missOf_r__X3_compare k_3)
    exact pk_mono (w_f_X3_compare_30 8589934592 h_4 r_4 0 0) (fun _ k => Fr_trans k_3 (Fr_mono fs_X3_compare_30__X3_compare k))
def S_X7_wordKind_12 : CL := []
theorem w_f_X7_wordKind_106 (k12 : HS → Int32 → Int32 → Int32 → Int32 → Int32 → Int32 → Option (Int32 × HS)) (hk_k12 : ∀ (h : HS) (x0 : Int32) (x1 : Int32) (x2 : Int32) (x3 : Int32) (x4 : Int32) (x5 : Int32), pk (k12 h x0 x1 x2 x3 x4 x5) (fun a => Fr S_X7_wordKind_12 h a.2)) (h : HS) (x1 : Int32) (x2 : Int32) (x3 : Int32) (x4 : Int32) (x5 : Int32) (x6 : Int32) : pk (f_X7_wordKind_106 k12 h x1 x2 x3 x4 x5 x6) (fun a => Fr S_X7_wordKind_12 h a.2) := by
  unfold f_X7_wordKind_106
  exact pk_mono (hk_k12 h x1 x2 x3 x4 x5 (x6 + 1)) (fun _ k => Fr_trans (Fr_refl _ h) k)
theorem w_f_X7_wordKind_94 (k12 : HS → Int32 → Int32 → Int32 → Int32 → Int32 → Int32 → Option (Int32 × HS)) (hk_k12 : ∀ (h : HS) (x0 : Int32) (x1 : Int32) (x2 : Int32) (x3 : Int32) (x4 : Int32) (x5 : Int32), pk (k12 h x0 x1 x2 x3 x4 x5) (fun a => Fr S_X7_wordKind_12 h a.2)) (h : HS) (x1 : Int32) (x2 : Int32) (x3 : Int32) (x6 : Int32) : pk (f_X7_wordKind_94 k12 h x1 x2 x3 x6) (fun a => Fr S_X7_wordKind_12 h a.2) := by
  unfold f_X7_wordKind_94
  exact pk_mono (w_f_X7_wordKind_106 k12 hk_k12 h x1 x2 (x3 + 1) (x6 + 1) 1 x6) (fun _ k => Fr_trans (Fr_refl _ h) k)
theorem w_f_X7_wordKind_73 (k12 : HS → Int32 → Int32 → Int32 → Int32 → Int32 → Int32 → Option (Int32 × HS)) (hk_k12 : ∀ (h : HS) (x0 : Int32) (x1 : Int32) (x2 : Int32) (x3 : Int32) (x4 : Int32) (x5 : Int32), pk (k12 h x0 x1 x2 x3 x4 x5) (fun a => Fr S_X7_wordKind_12 h a.2)) (h : HS) (x1 : Int32) (x2 : Int32) (x3 : Int32) (x4 : Int32) (x6 : Int32) (y0 : Int32) : pk (f_X7_wordKind_73 k12 h x1 x2 x3 x4 x6 y0) (fun a => Fr S_X7_wordKind_12 h a.2) := by
  unfold f_X7_wordKind_73
  exact pk_mono (w_f_X7_wordKind_106 k12 hk_k12 h x1 x2 x3 x4 y0 x6) (fun _ k => Fr_trans (Fr_refl _ h) k)
theorem w_f_X7_wordKind_72 (k12 : HS → Int32 → Int32 → Int32 → Int32 → Int32 → Int32 → Option (Int32 × HS)) (hk_k12 : ∀ (h : HS) (x0 : Int32) (x1 : Int32) (x2 : Int32) (x3 : Int32) (x4 : Int32) (x5 : Int32), pk (k12 h x0 x1 x2 x3 x4 x5) (fun a => Fr S_X7_wordKind_12 h a.2)) (h : HS) (x1 : Int32) (x2 : Int32) (x3 : Int32) (x4 : Int32) (x6 : Int32) : pk (f_X7_wordKind_72 k12 h x1 x2 x3 x4 x6) (fun a => Fr S_X7_wordKind_12 h a.2) := by
  unfold f_X7_wordKind_72
  exact pk_mono (w_f_X7_wordKind_73 k12 hk_k12 h x1 x2 x3 x4 x6 0) (fun _ k => Fr_trans (Fr_refl _ h) k)
theorem fs_X5_byteAt__X7_wordKind_12 : ∀ x ∈ S_X5_byteAt, x ∈ S_X7_wordKind_12 := by decide
theorem w_f_X7_wordKind_12  : ∀ (n : Nat) (h : HS) (x1 : Int32) (x2 : Int32) (x3 : Int32) (x4 : Int32) (x5 : Int32) (x6 : Int32), pk (f_X7_wordKind_12  n h x1 x2 x3 x4 x5 x6) (fun a => Fr S_X7_wordKind_12 h a.2) := by
  intro n
  induction n with
  | zero => intro h x1 x2 x3 x4 x5 x6; exact pk_none
  | succ n ih =>
    intro h x1 x2 x3 x4 x5 x6
    rw [f_X7_wordKind_12_s]
    refine pk_obf (fun r_1 => ?_)
    refine pk_if (fun _ => ?_) (fun _ => ?_)
    · exact pk_some (Fr_refl _ h)
    · refine pk_obf (fun r_3 => ?_)
      refine pk_if (fun _ => ?_) (fun _ => ?_)
      · refine pk_if (fun _ => ?_) (fun _ => ?_)
        · exact pk_mono (w_f_X7_wordKind_94 (f_X7_wordKind_12 n) ih h x1 x2 x3 x6) (fun _ k => Fr_trans (Fr_refl _ h) k)
        · refine pk_if (fun _ => ?_) (fun _ => ?_)
          · exact pk_some (Fr_refl _ h)
          · exact pk_mono (w_f_X7_wordKind_94 (f_X7_wordKind_12 n) ih h x1 x2 x3 x6) (fun _ k => Fr_trans (Fr_refl _ h) k)
      · refine pk_if (fun _ => ?_) (fun _ => ?_)
        · exact pk_mono (w_f_X7_wordKind_72 (f_X7_wordKind_12 n) ih h x1 x2 x3 x4 x6) (fun _ k => Fr_trans (Fr_refl _ h) k)
        · refine pk_if (fun _ => ?_) (fun _ => ?_)
          · exact pk_mono (w_f_X7_wordKind_72 (f_X7_wordKind_12 n) ih h x1 x2 x3 x4 x6) (fun _ k => Fr_trans (Fr_refl _ h) k)
          · refine pk_ob2 (w_f_X5_byteAt h ((x1 + x6) - x4)) (fun r_9 h_9 k_1 => ?_)
            replace k_1 := Fr_trans (Fr_refl _ h) (Fr_mono fs_X5_byteAt__X7_wordKind_12 k_1)
            refine pk_if (fun _ => ?_) (fun _ => ?_)
            · exact pk_mono (w_f_X7_wordKind_73 (f_X7_wordKind_12 n) ih h_9 x1 x2 x3 x4 x6 1) (fun _ k => Fr_trans k_1 k)
            · exact pk_mono (w_f_X7_wordKind_72 (f_X7_wordKind_12 n) ih h_9 x1 x2 x3 x4 x6) (fun _ k => Fr_trans k_1 k)
def S_X7_wordKind : CL := []
theorem fs_X7_wordKind_12__X7_wordKind : ∀ x ∈ S_X7_wordKind_12, x ∈ S_X7_wordKind := by decide
theorem w_f_X7_wordKind (h : HS) (p1 : Int32) (p2 : Int32) : pk (f_X7_wordKind h p1 p2) (fun a => Fr S_X7_wordKind h a.2) := by
  unfold f_X7_wordKind
  exact pk_mono (w_f_X7_wordKind_12 8589934592 h p1 p2 16 0 1 0) (fun _ k => Fr_trans (Fr_refl _ h) (Fr_mono fs_X7_wordKind_12__X7_wordKind k))
def S_X7_splitWord_27 : CL := [(0, 4, 3), (1, 4, 0), (1, 4, 1), (1, 4, 2)]
theorem fs_X7_wordKind__X7_splitWord_27 : ∀ x ∈ S_X7_wordKind, x ∈ S_X7_splitWord_27 := by decide
theorem fs_X7_add__X7_splitWord_27 : ∀ x ∈ S_X7_add, x ∈ S_X7_splitWord_27 := by decide
theorem w_f_X7_splitWord_27 (h : HS) (x2 : Int32) (x3 : Int32) : pk (f_X7_splitWord_27 h x2 x3) (fun a => Fr S_X7_splitWord_27 h a.2) := by
  unfold f_X7_splitWord_27
  refine pk_ob2 (w_f_X7_wordKind h x2 (x3 - x2)) (fun r_5 h_5 k_1 => ?_)
  replace k_1 := Fr_trans (Fr_refl _ h) (Fr_mono fs_X7_wordKind__X7_splitWord_27 k_1)
  refine pk_ob1 (w_f_X7_add h_5 r_5 x2 0) (fun h_6 k_2 => ?_)
  replace k_2 := Fr_trans k_1 (Fr_mono fs_X7_add__X7_splitWord_27 k_2)
  exact pk_some k_2
def S_X7_splitWord_2 : CL := [(0, 4, 3), (1, 4, 0), (1, 4, 1), (1, 4, 2)]
theorem fs_X7_splitWord_27__X7_splitWord_2 : ∀ x ∈ S_X7_splitWord_27, x ∈ S_X7_splitWord_2 := by decide
theorem fs_X5_byteAt__X7_splitWord_2 : ∀ x ∈ S_X5_byteAt, x ∈ S_X7_splitWord_2 := by decide
theorem w_f_X7_splitWord_2  : ∀ (n : Nat) (h : HS) (x2 : Int32) (x3 : Int32), pk (f_X7_splitWord_2  n h x2 x3) (fun a => Fr S_X7_splitWord_2 h a.2) := by
  intro n
  induction n with
  | zero => intro h x2 x3; exact pk_none
  | succ n ih =>
    intro h x2 x3
    rw [f_X7_splitWord_2_s]
    refine pk_if (fun _ => ?_) (fun _ => ?_)
    · exact pk_mono (w_f_X7_splitWord_27 h x2 x3) (fun _ k => Fr_trans (Fr_refl _ h) (Fr_mono fs_X7_splitWord_27__X7_splitWord_2 k))
    · refine pk_ob2 (w_f_X5_byteAt h x3) (fun r_2 h_2 k_1 => ?_)
      replace k_1 := Fr_trans (Fr_refl _ h) (Fr_mono fs_X5_byteAt__X7_splitWord_2 k_1)
      refine pk_obf (fun r_3 => ?_)
      refine pk_if (fun _ => ?_) (fun _ => ?_)
      · exact pk_mono (w_f_X7_splitWord_27 h_2 x2 x3) (fun _ k => Fr_trans k_1 (Fr_mono fs_X7_splitWord_27__X7_splitWord_2 k))
      · exact pk_mono (ih h_2 x2 (x3 + 1)) (fun _ k => Fr_trans k_1 k)
def S_X7_splitWord : CL := [(0, 4, 3), (1, 4, 0), (1, 4, 1), (1, 4, 2)]
theorem fs_X7_splitWord_2__X7_splitWord : ∀ x ∈ S_X7_splitWord_2, x ∈ S_X7_splitWord := by decide
theorem w_f_X7_splitWord (h : HS) (p1 : Int32) : pk (f_X7_splitWord h p1) (fun a => Fr S_X7_splitWord h a.2) := by
  unfold f_X7_splitWord
  exact pk_mono (w_f_X7_splitWord_2 8589934592 h p1 p1) (fun _ k => Fr_trans (Fr_refl _ h) (Fr_mono fs_X7_splitWord_2__X7_splitWord k))
def S_X7_split_99 : CL := [(0, 4, 3), (1, 4, 0), (1, 4, 1), (1, 4, 2)]
theorem fs_X7_add__X7_split_99 : ∀ x ∈ S_X7_add, x ∈ S_X7_split_99 := by decide
theorem w_f_X7_split_99 (h : HS) : pk (f_X7_split_99 h) (fun a => Fr S_X7_split_99 h a) := by
  unfold f_X7_split_99
  refine pk_ob1 (w_f_X7_add h 0 (eI h 3 1) 0) (fun h_13 k_1 => ?_)
  replace k_1 := Fr_trans (Fr_refl _ h) (Fr_mono fs_X7_add__X7_split_99 k_1)
  exact pk_some k_1
def S_X7_split_14 : CL := [(0, 4, 3), (1, 4, 0), (1, 4, 1), (1, 4, 2)]
theorem w_f_X7_split_93 (k14 : HS → Int32 → Int32 → Option HS) (hk_k14 : ∀ (h : HS) (x0 : Int32) (x1 : Int32), pk (k14 h x0 x1) (fun a => Fr S_X7_split_14 h a)) (h : HS) (x2 : Int32) (x3 : Int32) : pk (f_X7_split_93 k14 h x2 x3) (fun a => Fr S_X7_split_14 h a) := by
  unfold f_X7_split_93
  exact pk_mono (hk_k14 h x2 (x3 + 1)) (fun _ k => Fr_trans (Fr_refl _ h) k)
theorem fs_X7_split_99__X7_split_14 : ∀ x ∈ S_X7_split_99, x ∈ S_X7_split_14 := by decide
theorem fs_X5_byteAt__X7_split_14 : ∀ x ∈ S_X5_byteAt, x ∈ S_X7_split_14 := by decide
theorem fs_X7_splitSign__X7_split_14 : ∀ x ∈ S_X7_splitSign, x ∈ S_X7_split_14 := by decide
theorem fs_X7_splitNumber__X7_split_14 : ∀ x ∈ S_X7_splitNumber, x ∈ S_X7_split_14 := by decide
theorem fs_X7_splitWord__X7_split_14 : ∀ x ∈ S_X7_splitWord, x ∈ S_X7_split_14 := by decide
theorem w_f_X7_split_14  : ∀ (n : Nat) (h : HS) (x2 : Int32) (x3 : Int32), pk (f_X7_split_14  n h x2 x3) (fun a => Fr S_X7_split_14 h a) := by
  intro n
  induction n with
  | zero => intro h x2 x3; exact pk_none
  | succ n ih =>
    intro h x2 x3
    rw [f_X7_split_14_s]
    refine pk_if (fun _ => ?_) (fun _ => ?_)
    · exact pk_mono (w_f_X7_split_99 h) (fun _ k => Fr_trans (Fr_refl _ h) (Fr_mono fs_X7_split_99__X7_split_14 k))
    · refine pk_if (fun _ => ?_) (fun _ => ?_)
      · exact pk_mono (w_f_X7_split_99 h) (fun _ k => Fr_trans (Fr_refl _ h) (Fr_mono fs_X7_split_99__X7_split_14 k))
      · refine pk_ob2 (w_f_X5_byteAt h x2) (fun r_3 h_3 k_1 => ?_)
        replace k_1 := Fr_trans (Fr_refl _ h) (Fr_mono fs_X5_byteAt__X7_split_14 k_1)
        refine pk_obf (fun r_4 => ?_)
        refine pk_if (fun _ => ?_) (fun _ => ?_)
        · refine pk_obf (fun r_6 => ?_)
          refine pk_if (fun _ => ?_) (fun _ => ?_)
          · refine pk_obf (fun r_8 => ?_)
            refine pk_if (fun _ => ?_) (fun _ => ?_)
            · refine pk_ob2 (w_f_X7_splitSign h_3 x2) (fun r_10 h_10 k_2 => ?_)
              replace k_2 := Fr_trans k_1 (Fr_mono fs_X7_splitSign__X7_split_14 k_2)
              exact pk_mono (w_f_X7_split_93 (f_X7_split_14 n) ih h_10 r_10 x3) (fun _ k => Fr_trans k_2 k)
            · refine pk_ob2 (w_f_X7_splitNumber h_3 x2) (fun r_11 h_11 k_3 => ?_)
              replace k_3 := Fr_trans k_1 (Fr_mono fs_X7_splitNumber__X7_split_14 k_3)
              exact pk_mono (w_f_X7_split_93 (f_X7_split_14 n) ih h_11 r_11 x3) (fun _ k => Fr_trans k_3 k)
          · refine pk_ob2 (w_f_X7_splitWord h_3 x2) (fun r_12 h_12 k_4 => ?_)
            replace k_4 := Fr_trans k_1 (Fr_mono fs_X7_splitWord__X7_split_14 k_4)
            exact pk_mono (w_f_X7_split_93 (f_X7_split_14 n) ih h_12 r_12 x3) (fun _ k => Fr_trans k_4 k)
        · exact pk_mono (w_f_X7_split_93 (f_X7_split_14 n) ih h_3 (x2 + 1) x3) (fun _ k => Fr_trans k_1 k)
def S_X7_split : CL := [(0, 4, 3), (0, 4, 4), (1, 4, 0), (1, 4, 1), (1, 4, 2)]
theorem fm_X7_split_0_4_3 : (0, 4, 3) ∈ S_X7_split := by decide
theorem fm_X7_split_0_4_4 : (0, 4, 4) ∈ S_X7_split := by decide
theorem fs_X7_split_14__X7_split : ∀ x ∈ S_X7_split_14, x ∈ S_X7_split := by decide
theorem w_f_X7_split (h : HS) : pk (f_X7_split h) (fun a => Fr S_X7_split h a) := by
  unfold f_X7_split
  exact pk_mono (w_f_X7_split_14 8589934592 (sI (sI h 4 4 0) 4 3 0) 0 0) (fun _ k => Fr_trans (Fr_sI fm_X7_split_0_4_3 (Fr_sI fm_X7_split_0_4_4 (Fr_refl _ h))) (Fr_mono fs_X7_split_14__X7_split k))
def S_X1_rule_82 : CL := [(0, 6, 3)]
theorem fs_X1_pop__X1_rule_82 : ∀ x ∈ S_X1_pop, x ∈ S_X1_rule_82 := by decide
theorem w_f_X1_rule_82 (h : HS) (y0 : Int32) (y1 : Int32) : pk (f_X1_rule_82 h y0 y1) (fun a => Fr S_X1_rule_82 h a.2) := by
  unfold f_X1_rule_82
  refine pk_ob2 (w_f_X1_pop h) (fun r_43 h_43 k_1 => ?_)
  replace k_1 := Fr_trans (Fr_refl _ h) (Fr_mono fs_X1_pop__X1_rule_82 k_1)
  exact pk_some k_1
def S_X1_rule_46 : CL := [(0, 6, 3), (1, 6, 2)]
theorem fs_X1_rule_82__X1_rule_46 : ∀ x ∈ S_X1_rule_82, x ∈ S_X1_rule_46 := by decide
theorem fs_X6_stepAt_0__X1_rule_46 : ∀ x ∈ S_X6_stepAt_0, x ∈ S_X1_rule_46 := by decide
theorem fs_X1_take__X1_rule_46 : ∀ x ∈ S_X1_take, x ∈ S_X1_rule_46 := by decide
theorem w_f_X1_rule_46  : ∀ (n : Nat) (h : HS) (x2 : Int32) (x4 : Int32) (x5 : Int32), pk (f_X1_rule_46  n h x2 x4 x5) (fun a => Fr S_X1_rule_46 h a.2) := by
  intro n
  induction n with
  | zero => intro h x2 x4 x5; exact pk_none
  | succ n ih =>
    intro h x2 x4 x5
    rw [f_X1_rule_46_s]
    refine pk_if (fun _ => ?_) (fun _ => ?_)
    · refine pk_if (fun _ => ?_) (fun _ => ?_)
      · exact pk_mono (w_f_X1_rule_82 h 99 0) (fun _ k => Fr_trans (Fr_refl _ h) (Fr_mono fs_X1_rule_82__X1_rule_46 k))
      · exact pk_mono (w_f_X1_rule_82 h 10 0) (fun _ k => Fr_trans (Fr_refl _ h) (Fr_mono fs_X1_rule_82__X1_rule_46 k))
    · refine pk_ob2 (w_f_X6_stepAt_0 h x5) (fun r_28 h_28 k_1 => ?_)
      replace k_1 := Fr_trans (Fr_refl _ h) (Fr_mono fs_X6_stepAt_0__X1_rule_46 k_1)
      refine pk_ob1 (w_f_X1_take h_28 r_28) (fun h_29 k_2 => ?_)
      replace k_2 := Fr_trans k_1 (Fr_mono fs_X1_take__X1_rule_46 k_2)
      exact pk_mono (ih h_29 x2 x4 (x5 + 1)) (fun _ k => Fr_trans k_2 k)
def S_X1_rule_21 : CL := []
theorem fs_X1_without__X1_rule_21 : ∀ x ∈ S_X1_without, x ∈ S_X1_rule_21 := by decide
theorem w_f_X1_rule_21 (h : HS) (x2 : Int32) : pk (f_X1_rule_21 h x2) (fun a => Fr S_X1_rule_21 h a.2) := by
  unfold f_X1_rule_21
  refine pk_ob2 (w_f_X1_without h x2) (fun r_30 h_30 k_1 => ?_)
  replace k_1 := Fr_trans (Fr_refl _ h) (Fr_mono fs_X1_without__X1_rule_21 k_1)
  exact pk_some k_1
def S_X1_rule_46b : CL := [(0, 6, 3), (1, 6, 2)]
theorem fs_X1_rule_82__X1_rule_46b : ∀ x ∈ S_X1_rule_82, x ∈ S_X1_rule_46b := by decide
theorem fs_X6_stepAt_1__X1_rule_46b : ∀ x ∈ S_X6_stepAt_1, x ∈ S_X1_rule_46b := by decide
theorem fs_X1_take__X1_rule_46b : ∀ x ∈ S_X1_take, x ∈ S_X1_rule_46b := by decide
theorem w_f_X1_rule_46b  : ∀ (n : Nat) (h : HS) (x2 : Int32) (x4 : Int32) (x5 : Int32), pk (f_X1_rule_46b  n h x2 x4 x5) (fun a => Fr S_X1_rule_46b h a.2) := by
  intro n
  induction n with
  | zero => intro h x2 x4 x5; exact pk_none
  | succ n ih =>
    intro h x2 x4 x5
    rw [f_X1_rule_46b_s]
    refine pk_if (fun _ => ?_) (fun _ => ?_)
    · refine pk_if (fun _ => ?_) (fun _ => ?_)
      · exact pk_mono (w_f_X1_rule_82 h 99 0) (fun _ k => Fr_trans (Fr_refl _ h) (Fr_mono fs_X1_rule_82__X1_rule_46b k))
      · exact pk_mono (w_f_X1_rule_82 h 10 0) (fun _ k => Fr_trans (Fr_refl _ h) (Fr_mono fs_X1_rule_82__X1_rule_46b k))
    · refine pk_ob2 (w_f_X6_stepAt_1 h x5) (fun r_33 h_33 k_1 => ?_)
      replace k_1 := Fr_trans (Fr_refl _ h) (Fr_mono fs_X6_stepAt_1__X1_rule_46b k_1)
      refine pk_ob1 (w_f_X1_take h_33 r_33) (fun h_34 k_2 => ?_)
      replace k_2 := Fr_trans k_1 (Fr_mono fs_X1_take__X1_rule_46b k_2)
      exact pk_mono (ih h_34 x2 x4 (x5 + 1)) (fun _ k => Fr_trans k_2 k)
def S_X1_rule_46c : CL := [(0, 6, 3), (1, 6, 2)]
theorem fs_X1_rule_82__X1_rule_46c : ∀ x ∈ S_X1_rule_82, x ∈ S_X1_rule_46c := by decide
theorem fs_X6_stepAt_2__X1_rule_46c : ∀ x ∈ S_X6_stepAt_2, x ∈ S_X1_rule_46c := by decide
theorem fs_X1_take__X1_rule_46c : ∀ x ∈ S_X1_take, x ∈ S_X1_rule_46c := by decide
theorem w_f_X1_rule_46c  : ∀ (n : Nat) (h : HS) (x2 : Int32) (x4 : Int32) (x5 : Int32), pk (f_X1_rule_46c  n h x2 x4 x5) (fun a => Fr S_X1_rule_46c h a.2) := by
  intro n
  induction n with
  | zero => intro h x2 x4 x5; exact pk_none
  | succ n ih =>
    intro h x2 x4 x5
    rw [f_X1_rule_46c_s]
    refine pk_if (fun _ => ?_) (fun _ => ?_)
    · refine pk_if (fun _ => ?_) (fun _ => ?_)
      · exact pk_mono (w_f_X1_rule_82 h 99 0) (fun _ k => Fr_trans (Fr_refl _ h) (Fr_mono fs_X1_rule_82__X1_rule_46c k))
      · exact pk_mono (w_f_X1_rule_82 h 10 0) (fun _ k => Fr_trans (Fr_refl _ h) (Fr_mono fs_X1_rule_82__X1_rule_46c k))
    · refine pk_ob2 (w_f_X6_stepAt_2 h x5) (fun r_37 h_37 k_1 => ?_)
      replace k_1 := Fr_trans (Fr_refl _ h) (Fr_mono fs_X6_stepAt_2__X1_rule_46c k_1)
      refine pk_ob1 (w_f_X1_take h_37 r_37) (fun h_38 k_2 => ?_)
      replace k_2 := Fr_trans k_1 (Fr_mono fs_X1_take__X1_rule_46c k_2)
      exact pk_mono (ih h_38 x2 x4 (x5 + 1)) (fun _ k => Fr_trans k_2 k)
def S_X1_rule_46d : CL := [(0, 6, 3), (1, 6, 2)]
theorem fs_X1_rule_82__X1_rule_46d : ∀ x ∈ S_X1_rule_82, x ∈ S_X1_rule_46d := by decide
theorem fs_X6_stepAt_3__X1_rule_46d : ∀ x ∈ S_X6_stepAt_3, x ∈ S_X1_rule_46d := by decide
theorem fs_X1_take__X1_rule_46d : ∀ x ∈ S_X1_take, x ∈ S_X1_rule_46d := by decide
theorem w_f_X1_rule_46d  : ∀ (n : Nat) (h : HS) (x2 : Int32) (x4 : Int32) (x5 : Int32), pk (f_X1_rule_46d  n h x2 x4 x5) (fun a => Fr S_X1_rule_46d h a.2) := by
  intro n
  induction n with
  | zero => intro h x2 x4 x5; exact pk_none
  | succ n ih =>
    intro h x2 x4 x5
    rw [f_X1_rule_46d_s]
    refine pk_if (fun _ => ?_) (fun _ => ?_)
    · refine pk_if (fun _ => ?_) (fun _ => ?_)
      · exact pk_mono (w_f_X1_rule_82 h 99 0) (fun _ k => Fr_trans (Fr_refl _ h) (Fr_mono fs_X1_rule_82__X1_rule_46d k))
      · exact pk_mono (w_f_X1_rule_82 h 10 0) (fun _ k => Fr_trans (Fr_refl _ h) (Fr_mono fs_X1_rule_82__X1_rule_46d k))
    · refine pk_ob2 (w_f_X6_stepAt_3 h x5) (fun r_41 h_41 k_1 => ?_)
      replace k_1 := Fr_trans (Fr_refl _ h) (Fr_mono fs_X6_stepAt_3__X1_rule_46d k_1)
      refine pk_ob1 (w_f_X1_take h_41 r_41) (fun h_42 k_2 => ?_)
      replace k_2 := Fr_trans k_1 (Fr_mono fs_X1_take__X1_rule_46d k_2)
      exact pk_mono (ih h_42 x2 x4 (x5 + 1)) (fun _ k => Fr_trans k_2 k)
def S_X1_rule : CL := [(0, 6, 3), (1, 6, 2)]
theorem fm_X1_rule_0_6_3 : (0, 6, 3) ∈ S_X1_rule := by decide
theorem fs_X6_hasLaw_0__X1_rule : ∀ x ∈ S_X6_hasLaw_0, x ∈ S_X1_rule := by decide
theorem fs_X1_rule_21__X1_rule : ∀ x ∈ S_X1_rule_21, x ∈ S_X1_rule := by decide
theorem fs_X6_stepsEnd_0__X1_rule : ∀ x ∈ S_X6_stepsEnd_0, x ∈ S_X1_rule := by decide
theorem fs_X6_firstStep_0__X1_rule : ∀ x ∈ S_X6_firstStep_0, x ∈ S_X1_rule := by decide
theorem fs_X1_rule_46__X1_rule : ∀ x ∈ S_X1_rule_46, x ∈ S_X1_rule := by decide
theorem fs_X6_hasLaw_1__X1_rule : ∀ x ∈ S_X6_hasLaw_1, x ∈ S_X1_rule := by decide
theorem fs_X6_stepsEnd_1__X1_rule : ∀ x ∈ S_X6_stepsEnd_1, x ∈ S_X1_rule := by decide
theorem fs_X6_firstStep_1__X1_rule : ∀ x ∈ S_X6_firstStep_1, x ∈ S_X1_rule := by decide
theorem fs_X1_rule_46b__X1_rule : ∀ x ∈ S_X1_rule_46b, x ∈ S_X1_rule := by decide
theorem fs_X6_hasLaw_2__X1_rule : ∀ x ∈ S_X6_hasLaw_2, x ∈ S_X1_rule := by decide
theorem fs_X6_stepsEnd_2__X1_rule : ∀ x ∈ S_X6_stepsEnd_2, x ∈ S_X1_rule := by decide
theorem fs_X6_firstStep_2__X1_rule : ∀ x ∈ S_X6_firstStep_2, x ∈ S_X1_rule := by decide
theorem fs_X1_rule_46c__X1_rule : ∀ x ∈ S_X1_rule_46c, x ∈ S_X1_rule := by decide
theorem fs_X6_hasLaw_3__X1_rule : ∀ x ∈ S_X6_hasLaw_3, x ∈ S_X1_rule := by decide
theorem fs_X6_stepsEnd_3__X1_rule : ∀ x ∈ S_X6_stepsEnd_3, x ∈ S_X1_rule := by decide
theorem fs_X6_firstStep_3__X1_rule : ∀ x ∈ S_X6_firstStep_3, x ∈ S_X1_rule := by decide
theorem fs_X1_rule_46d__X1_rule : ∀ x ∈ S_X1_rule_46d, x ∈ S_X1_rule := by decide
theorem w_f_X1_rule (h : HS) (p1 : Int32) : pk (f_X1_rule h p1) (fun a => Fr S_X1_rule h a.2) := by
  unfold f_X1_rule
  refine pk_if (fun _ => ?_) (fun _ => ?_)
  · refine pk_ob2 (w_f_X6_hasLaw_0 h p1) (fun r_3 h_3 k_1 => ?_)
    replace k_1 := Fr_trans (Fr_refl _ h) (Fr_mono fs_X6_hasLaw_0__X1_rule k_1)
    refine pk_if (fun _ => ?_) (fun _ => ?_)
    · exact pk_mono (w_f_X1_rule_21 h_3 p1) (fun _ k => Fr_trans k_1 (Fr_mono fs_X1_rule_21__X1_rule k))
    · refine pk_ob2 (w_f_X6_stepsEnd_0 (sI h_3 6 3 0) p1) (fun r_5 h_5 k_2 => ?_)
      replace k_2 := Fr_trans (Fr_sI fm_X1_rule_0_6_3 k_1) (Fr_mono fs_X6_stepsEnd_0__X1_rule k_2)
      refine pk_ob2 (w_f_X6_firstStep_0 h_5 p1) (fun r_6 h_6 k_3 => ?_)
      replace k_3 := Fr_trans k_2 (Fr_mono fs_X6_firstStep_0__X1_rule k_3)
      exact pk_mono (w_f_X1_rule_46 8589934592 h_6 p1 r_5 r_6) (fun _ k => Fr_trans k_3 (Fr_mono fs_X1_rule_46__X1_rule k))
  · refine pk_if (fun _ => ?_) (fun _ => ?_)
    · refine pk_ob2 (w_f_X6_hasLaw_1 h p1) (fun r_9 h_9 k_4 => ?_)
      replace k_4 := Fr_trans (Fr_refl _ h) (Fr_mono fs_X6_hasLaw_1__X1_rule k_4)
      refine pk_if (fun _ => ?_) (fun _ => ?_)
      · exact pk_mono (w_f_X1_rule_21 h_9 p1) (fun _ k => Fr_trans k_4 (Fr_mono fs_X1_rule_21__X1_rule k))
      · refine pk_ob2 (w_f_X6_stepsEnd_1 (sI h_9 6 3 0) p1) (fun r_11 h_11 k_5 => ?_)
        replace k_5 := Fr_trans (Fr_sI fm_X1_rule_0_6_3 k_4) (Fr_mono fs_X6_stepsEnd_1__X1_rule k_5)
        refine pk_ob2 (w_f_X6_firstStep_1 h_11 p1) (fun r_12 h_12 k_6 => ?_)
        replace k_6 := Fr_trans k_5 (Fr_mono fs_X6_firstStep_1__X1_rule k_6)
        exact pk_mono (w_f_X1_rule_46b 8589934592 h_12 p1 r_11 r_12) (fun _ k => Fr_trans k_6 (Fr_mono fs_X1_rule_46b__X1_rule k))
    · refine pk_if (fun _ => ?_) (fun _ => ?_)
      · refine pk_ob2 (w_f_X6_hasLaw_2 h p1) (fun r_15 h_15 k_7 => ?_)
        replace k_7 := Fr_trans (Fr_refl _ h) (Fr_mono fs_X6_hasLaw_2__X1_rule k_7)
        refine pk_if (fun _ => ?_) (fun _ => ?_)
        · exact pk_mono (w_f_X1_rule_21 h_15 p1) (fun _ k => Fr_trans k_7 (Fr_mono fs_X1_rule_21__X1_rule k))
        · refine pk_ob2 (w_f_X6_stepsEnd_2 (sI h_15 6 3 0) p1) (fun r_17 h_17 k_8 => ?_)
          replace k_8 := Fr_trans (Fr_sI fm_X1_rule_0_6_3 k_7) (Fr_mono fs_X6_stepsEnd_2__X1_rule k_8)
          refine pk_ob2 (w_f_X6_firstStep_2 h_17 p1) (fun r_18 h_18 k_9 => ?_)
          replace k_9 := Fr_trans k_8 (Fr_mono fs_X6_firstStep_2__X1_rule k_9)
          exact pk_mono (w_f_X1_rule_46c 8589934592 h_18 p1 r_17 r_18) (fun _ k => Fr_trans k_9 (Fr_mono fs_X1_rule_46c__X1_rule k))
      · refine pk_if (fun _ => ?_) (fun _ => ?_)
        · refine pk_ob2 (w_f_X6_hasLaw_3 h p1) (fun r_21 h_21 k_10 => ?_)
          replace k_10 := Fr_trans (Fr_refl _ h) (Fr_mono fs_X6_hasLaw_3__X1_rule k_10)
          refine pk_if (fun _ => ?_) (fun _ => ?_)
          · exact pk_mono (w_f_X1_rule_21 h_21 p1) (fun _ k => Fr_trans k_10 (Fr_mono fs_X1_rule_21__X1_rule k))
          · refine pk_ob2 (w_f_X6_stepsEnd_3 (sI h_21 6 3 0) p1) (fun r_23 h_23 k_11 => ?_)
            replace k_11 := Fr_trans (Fr_sI fm_X1_rule_0_6_3 k_10) (Fr_mono fs_X6_stepsEnd_3__X1_rule k_11)
            refine pk_ob2 (w_f_X6_firstStep_3 h_23 p1) (fun r_24 h_24 k_12 => ?_)
            replace k_12 := Fr_trans k_11 (Fr_mono fs_X6_firstStep_3__X1_rule k_12)
            exact pk_mono (w_f_X1_rule_46d 8589934592 h_24 p1 r_23 r_24) (fun _ k => Fr_trans k_12 (Fr_mono fs_X1_rule_46d__X1_rule k))
        · exact pk_mono (w_f_X1_rule_21 h p1) (fun _ k => Fr_trans (Fr_refl _ h) (Fr_mono fs_X1_rule_21__X1_rule k))
def S_X1_inkCost : CL := [(0, 6, 3), (1, 6, 1), (1, 6, 2)]
theorem fs_X1_lookAtFilled__X1_inkCost : ∀ x ∈ S_X1_lookAtFilled, x ∈ S_X1_inkCost := by decide
theorem fs_X1_rule__X1_inkCost : ∀ x ∈ S_X1_rule, x ∈ S_X1_inkCost := by decide
theorem w_f_X1_inkCost (h : HS) (p1 : Int32) (p2 : Int32) (p3 : Int32) : pk (f_X1_inkCost h p1 p2 p3) (fun a => Fr S_X1_inkCost h a.2) := by
  unfold f_X1_inkCost
  refine pk_ob1 (w_f_X1_lookAtFilled h p1 p2 p3) (fun h_1 k_1 => ?_)
  replace k_1 := Fr_trans (Fr_refl _ h) (Fr_mono fs_X1_lookAtFilled__X1_inkCost k_1)
  refine pk_ob2 (w_f_X1_rule h_1 2) (fun r_2 h_2 k_2 => ?_)
  replace k_2 := Fr_trans k_1 (Fr_mono fs_X1_rule__X1_inkCost k_2)
  exact pk_some k_2
def S_X1_isTrue_20 : CL := []
theorem w_f_X1_isTrue_20 (h : HS) (y0 : Int32) : pk (f_X1_isTrue_20 h y0) (fun a => Fr S_X1_isTrue_20 h a.2) := by
  unfold f_X1_isTrue_20
  refine pk_chk (fun _ => ?_)
  exact pk_some (Fr_refl _ h)
def S_X1_isTrue : CL := [(0, 6, 3), (1, 6, 1), (1, 6, 2)]
theorem fs_X1_lookAt__X1_isTrue : ∀ x ∈ S_X1_lookAt, x ∈ S_X1_isTrue := by decide
theorem fs_X1_rule__X1_isTrue : ∀ x ∈ S_X1_rule, x ∈ S_X1_isTrue := by decide
theorem fs_X1_isTrue_20__X1_isTrue : ∀ x ∈ S_X1_isTrue_20, x ∈ S_X1_isTrue := by decide
theorem w_f_X1_isTrue (h : HS) (p1 : Int32) : pk (f_X1_isTrue h p1) (fun a => Fr S_X1_isTrue h a.2) := by
  unfold f_X1_isTrue
  refine pk_ob1 (w_f_X1_lookAt h p1) (fun h_1 k_1 => ?_)
  replace k_1 := Fr_trans (Fr_refl _ h) (Fr_mono fs_X1_lookAt__X1_isTrue k_1)
  refine pk_ob2 (w_f_X1_rule h_1 3) (fun r_2 h_2 k_2 => ?_)
  replace k_2 := Fr_trans k_1 (Fr_mono fs_X1_rule__X1_isTrue k_2)
  refine pk_if (fun _ => ?_) (fun _ => ?_)
  · exact pk_mono (w_f_X1_isTrue_20 h_2 0) (fun _ k => Fr_trans k_2 (Fr_mono fs_X1_isTrue_20__X1_isTrue k))
  · exact pk_mono (w_f_X1_isTrue_20 h_2 1) (fun _ k => Fr_trans k_2 (Fr_mono fs_X1_isTrue_20__X1_isTrue k))
def S_X1_isTrueWith_27 : CL := []
theorem w_f_X1_isTrueWith_27 (h : HS) (y0 : Int32) : pk (f_X1_isTrueWith_27 h y0) (fun a => Fr S_X1_isTrueWith_27 h a.2) := by
  unfold f_X1_isTrueWith_27
  refine pk_chk (fun _ => ?_)
  exact pk_some (Fr_refl _ h)
def S_X1_isTrueWith : CL := [(0, 6, 3), (1, 6, 1), (1, 6, 2)]
theorem fm_X1_isTrueWith_1_6_1 : (1, 6, 1) ∈ S_X1_isTrueWith := by decide
theorem fs_X1_lookAt__X1_isTrueWith : ∀ x ∈ S_X1_lookAt, x ∈ S_X1_isTrueWith := by decide
theorem fs_X1_rule__X1_isTrueWith : ∀ x ∈ S_X1_rule, x ∈ S_X1_isTrueWith := by decide
theorem fs_X1_isTrueWith_27__X1_isTrueWith : ∀ x ∈ S_X1_isTrueWith_27, x ∈ S_X1_isTrueWith := by decide
theorem w_f_X1_isTrueWith (h : HS) (p1 : Int32) (p2 : Int32) : pk (f_X1_isTrueWith h p1 p2) (fun a => Fr S_X1_isTrueWith h a.2) := by
  unfold f_X1_isTrueWith
  refine pk_ob1 (w_f_X1_lookAt h p1) (fun h_1 k_1 => ?_)
  replace k_1 := Fr_trans (Fr_refl _ h) (Fr_mono fs_X1_lookAt__X1_isTrueWith k_1)
  refine pk_ob2 (w_f_X1_rule (sA h_1 6 1 (upd (eA h_1 6 1) 2 p2)) 3) (fun r_2 h_2 k_2 => ?_)
  replace k_2 := Fr_trans (Fr_sA fm_X1_isTrueWith_1_6_1 k_1) (Fr_mono fs_X1_rule__X1_isTrueWith k_2)
  refine pk_if (fun _ => ?_) (fun _ => ?_)
  · exact pk_mono (w_f_X1_isTrueWith_27 h_2 0) (fun _ k => Fr_trans k_2 (Fr_mono fs_X1_isTrueWith_27__X1_isTrueWith k))
  · exact pk_mono (w_f_X1_isTrueWith_27 h_2 1) (fun _ k => Fr_trans k_2 (Fr_mono fs_X1_isTrueWith_27__X1_isTrueWith k))
def S_X0_add_129 : CL := [(2, 7, 1), (3, 7, 2), (3, 7, 3)]
theorem fm_X0_add_129_2_7_1 : (2, 7, 1) ∈ S_X0_add_129 := by decide
theorem fm_X0_add_129_3_7_2 : (3, 7, 2) ∈ S_X0_add_129 := by decide
theorem fm_X0_add_129_3_7_3 : (3, 7, 3) ∈ S_X0_add_129 := by decide
theorem w_f_X0_add_129  : ∀ (n : Nat) (h : HS) (x4 : Int32) (x5 : Int32) (x7 : Int32) (x8 : Int32) (x9 : Int32), pk (f_X0_add_129  n h x4 x5 x7 x8 x9) (fun a => Fr S_X0_add_129 h a) := by
  intro n
  induction n with
  | zero => intro h x4 x5 x7 x8 x9; exact pk_none
  | succ n ih =>
    intro h x4 x5 x7 x8 x9
    rw [f_X0_add_129_s]
    refine pk_if (fun _ => ?_) (fun _ => ?_)
    · exact pk_some (Fr_sL fm_X0_add_129_2_7_1 (Fr_sJ fm_X0_add_129_3_7_2 (Fr_refl _ h)))
    · refine pk_chk (fun _ => ?_)
      refine pk_chk (fun _ => ?_)
      refine pk_chk (fun _ => ?_)
      refine pk_chk (fun _ => ?_)
      refine pk_chk (fun _ => ?_)
      refine pk_chk (fun _ => ?_)
      exact pk_mono (ih (sJ (sJ h 7 3 (vp_updL (eJ h 7 3) (((x9 ||| (x5 * 4))).toNatClampNeg) (((eJ h 7 3) (((x9 ||| (x5 * 4))).toNatClampNeg)) + (((eJ h 7 2) ((x9).toNatClampNeg)) * ((x8).toInt64))))) 7 3 (vp_updL (vp_updL (eJ h 7 3) (((x9 ||| (x5 * 4))).toNatClampNeg) (((eJ h 7 3) (((x9 ||| (x5 * 4))).toNatClampNeg)) + (((eJ h 7 2) ((x9).toNatClampNeg)) * ((x8).toInt64)))) (((x9 ||| x4)).toNatClampNeg) (((vp_updL (eJ h 7 3) (((x9 ||| (x5 * 4))).toNatClampNeg) (((eJ h 7 3) (((x9 ||| (x5 * 4))).toNatClampNeg)) + (((eJ h 7 2) ((x9).toNatClampNeg)) * ((x8).toInt64)))) (((x9 ||| x4)).toNatClampNeg)) + (((eJ h 7 2) ((x9).toNatClampNeg)) * ((x7).toInt64))))) x4 x5 x7 x8 (x9 + 1)) (fun _ k => Fr_trans (Fr_sJ fm_X0_add_129_3_7_3 (Fr_sJ fm_X0_add_129_3_7_3 (Fr_refl _ h))) k)
def S_X0_add_86 : CL := [(2, 7, 1), (3, 7, 2), (3, 7, 3)]
theorem fm_X0_add_86_3_7_3 : (3, 7, 3) ∈ S_X0_add_86 := by decide
theorem fs_X0_add_129__X0_add_86 : ∀ x ∈ S_X0_add_129, x ∈ S_X0_add_86 := by decide
theorem w_f_X0_add_86  : ∀ (n : Nat) (h : HS) (x4 : Int32) (x5 : Int32) (x7 : Int32) (x8 : Int32) (x9 : Int32), pk (f_X0_add_86  n h x4 x5 x7 x8 x9) (fun a => Fr S_X0_add_86 h a) := by
  intro n
  induction n with
  | zero => intro h x4 x5 x7 x8 x9; exact pk_none
  | succ n ih =>
    intro h x4 x5 x7 x8 x9
    rw [f_X0_add_86_s]
    refine pk_if (fun _ => ?_) (fun _ => ?_)
    · exact pk_mono (w_f_X0_add_129 8589934592 h x4 x5 x7 x8 0) (fun _ k => Fr_trans (Fr_refl _ h) (Fr_mono fs_X0_add_129__X0_add_86 k))
    · refine pk_chk (fun _ => ?_)
      refine pk_chk (fun _ => ?_)
      exact pk_mono (ih (sJ h 7 3 (vp_updL (eJ h 7 3) ((x9).toNatClampNeg) (((eJ h 7 2) ((x9).toNatClampNeg)) * ((((100 - x8) - x7)).toInt64)))) x4 x5 x7 x8 (x9 + 1)) (fun _ k => Fr_trans (Fr_sJ fm_X0_add_86_3_7_3 (Fr_refl _ h)) k)
def S_X0_add_46 : CL := [(0, 6, 3), (1, 6, 1), (1, 6, 2), (2, 7, 1), (3, 7, 2), (3, 7, 3)]
theorem fs_X1_lookAtTraveller__X0_add_46 : ∀ x ∈ S_X1_lookAtTraveller, x ∈ S_X0_add_46 := by decide
theorem fs_X1_rule__X0_add_46 : ∀ x ∈ S_X1_rule, x ∈ S_X0_add_46 := by decide
theorem fs_X0_add_86__X0_add_46 : ∀ x ∈ S_X0_add_86, x ∈ S_X0_add_46 := by decide
theorem w_f_X0_add_46 (h : HS) (x3 : Int32) (x4 : Int32) (y0 : Int32) : pk (f_X0_add_46 h x3 x4 y0) (fun a => Fr S_X0_add_46 h a) := by
  unfold f_X0_add_46
  refine pk_ob1 (w_f_X1_lookAtTraveller h x3) (fun h_6 k_1 => ?_)
  replace k_1 := Fr_trans (Fr_refl _ h) (Fr_mono fs_X1_lookAtTraveller__X0_add_46 k_1)
  refine pk_ob2 (w_f_X1_rule h_6 0) (fun r_7 h_7 k_2 => ?_)
  replace k_2 := Fr_trans k_1 (Fr_mono fs_X1_rule__X0_add_46 k_2)
  refine pk_ob2 (w_f_X1_rule h_7 1) (fun r_8 h_8 k_3 => ?_)
  replace k_3 := Fr_trans k_2 (Fr_mono fs_X1_rule__X0_add_46 k_3)
  exact pk_mono (w_f_X0_add_86 8589934592 h_8 x4 y0 (r_7 * r_8) ((10 - r_7) * 10) 0) (fun _ k => Fr_trans k_3 (Fr_mono fs_X0_add_86__X0_add_46 k))
def S_X0_add : CL := [(0, 6, 3), (0, 7, 0), (1, 6, 1), (1, 6, 2), (2, 7, 1), (3, 7, 2), (3, 7, 3)]
theorem fm_X0_add_0_7_0 : (0, 7, 0) ∈ S_X0_add := by decide
theorem fs_X4_ofGoose__X0_add : ∀ x ∈ S_X4_ofGoose, x ∈ S_X0_add := by decide
theorem fs_X1_isTrue__X0_add : ∀ x ∈ S_X1_isTrue, x ∈ S_X0_add := by decide
theorem fs_X0_add_46__X0_add : ∀ x ∈ S_X0_add_46, x ∈ S_X0_add := by decide
theorem w_f_X0_add (h : HS) (p1 : Int32) : pk (f_X0_add h p1) (fun a => Fr S_X0_add h a) := by
  unfold f_X0_add
  refine pk_if (fun _ => ?_) (fun _ => ?_)
  · refine pk_ob2 (w_f_X4_ofGoose (sI h 7 0 ((eI h 7 0) + 1)) p1 3) (fun r_2 h_2 k_1 => ?_)
    replace k_1 := Fr_trans (Fr_sI fm_X0_add_0_7_0 (Fr_refl _ h)) (Fr_mono fs_X4_ofGoose__X0_add k_1)
    refine pk_obf (fun r_3 => ?_)
    refine pk_ob2 (w_f_X1_isTrue h_2 p1) (fun r_4 h_4 k_2 => ?_)
    replace k_2 := Fr_trans k_1 (Fr_mono fs_X1_isTrue__X0_add k_2)
    refine pk_if (fun _ => ?_) (fun _ => ?_)
    · exact pk_mono (w_f_X0_add_46 h_4 p1 r_3 0) (fun _ k => Fr_trans k_2 (Fr_mono fs_X0_add_46__X0_add k))
    · exact pk_mono (w_f_X0_add_46 h_4 p1 r_3 r_3) (fun _ k => Fr_trans k_2 (Fr_mono fs_X0_add_46__X0_add k))
  · exact pk_some (Fr_sI fm_X0_add_0_7_0 (Fr_refl _ h))
def S_tryMarkets : CL := [(0, 8, 12), (0, 8, 13), (0, 8, 15), (1, 8, 5), (1, 8, 6), (1, 8, 7), (2, 8, 14)]
theorem fs_X3_compare__tryMarkets : ∀ x ∈ S_X3_compare, x ∈ S_tryMarkets := by decide
theorem w_f_X3_tryMarkets_13 (kR_X3_tryMarkets : HS → Int32 → Option HS) (hk_kR_X3_tryMarkets : ∀ (h : HS) (x0 : Int32), pk (kR_X3_tryMarkets h x0) (fun a => Fr S_tryMarkets h a)) (h : HS) : pk (f_X3_tryMarkets_13 kR_X3_tryMarkets h) (fun a => Fr S_tryMarkets h a) := by
  unfold f_X3_tryMarkets_13
  refine pk_ob1 (w_f_X3_compare h) (fun h_3 k_1 => ?_)
  replace k_1 := Fr_trans (Fr_refl _ h) (Fr_mono fs_X3_compare__tryMarkets k_1)
  exact pk_some k_1
theorem fm_tryMarkets_1_8_5 : (1, 8, 5) ∈ S_tryMarkets := by decide
theorem w_f_X3_tryMarkets_20 (kR_X3_tryMarkets : HS → Int32 → Option HS) (hk_kR_X3_tryMarkets : ∀ (h : HS) (x0 : Int32), pk (kR_X3_tryMarkets h x0) (fun a => Fr S_tryMarkets h a)) : ∀ (n : Nat) (h : HS) (x1 : Int32) (x2 : Int32), pk (f_X3_tryMarkets_20 kR_X3_tryMarkets n h x1 x2) (fun a => Fr S_tryMarkets h a) := by
  intro n
  induction n with
  | zero => intro h x1 x2; exact pk_none
  | succ n ih =>
    intro h x1 x2
    rw [f_X3_tryMarkets_20_s]
    refine pk_if (fun _ => ?_) (fun _ => ?_)
    · exact pk_some (Fr_refl _ h)
    · refine pk_chk (fun _ => ?_)
      refine pk_ob1 (hk_kR_X3_tryMarkets (sA h 8 5 (upd (eA h 8 5) ((x1).toNatClampNeg) x2)) (x1 + 1)) (fun h_6 k_1 => ?_)
      replace k_1 := Fr_trans (Fr_sA fm_tryMarkets_1_8_5 (Fr_refl _ h)) k_1
      exact pk_mono (ih h_6 x1 (x2 + 1)) (fun _ k => Fr_trans k_1 k)
theorem w_f_X3_tryMarkets_b (kR_X3_tryMarkets : HS → Int32 → Option HS) (hk_kR_X3_tryMarkets : ∀ (h : HS) (x0 : Int32), pk (kR_X3_tryMarkets h x0) (fun a => Fr S_tryMarkets h a)) (h : HS) (p1 : Int32) : pk (f_X3_tryMarkets_b kR_X3_tryMarkets h p1) (fun a => Fr S_tryMarkets h a) := by
  unfold f_X3_tryMarkets_b
  refine pk_if (fun _ => ?_) (fun _ => ?_)
  · exact pk_mono (w_f_X3_tryMarkets_13 kR_X3_tryMarkets hk_kR_X3_tryMarkets h) (fun _ k => Fr_trans (Fr_refl _ h) k)
  · refine pk_if (fun _ => ?_) (fun _ => ?_)
    · exact pk_mono (w_f_X3_tryMarkets_20 kR_X3_tryMarkets hk_kR_X3_tryMarkets 8589934592 h p1 0) (fun _ k => Fr_trans (Fr_refl _ h) k)
    · exact pk_mono (w_f_X3_tryMarkets_13 kR_X3_tryMarkets hk_kR_X3_tryMarkets h) (fun _ k => Fr_trans (Fr_refl _ h) k)
theorem w_G_tryMarkets : ∀ (n t : Nat) (h : HS) (p1 : Int32), pk (G_tryMarkets n t h p1) (fun a => Fr S_tryMarkets h a) := by
  intro n
  induction n with
  | zero => intro t h p1; exact (by simp [G_tryMarkets]; exact pk_none)
  | succ n ih =>
    intro t h p1
    exact w_f_X3_tryMarkets_b (fun h p1 => G_tryMarkets n 0 h p1) (fun h p1 => ih 0 h p1) h p1
def S_X3_tryPatterns_152 : CL := []
theorem w_f_X3_tryPatterns_152 (h : HS) : pk (f_X3_tryPatterns_152 h) (fun a => Fr S_X3_tryPatterns_152 h a) := by
  unfold f_X3_tryPatterns_152
  exact pk_some (Fr_refl _ h)
def S_X3_tryPatterns_38 : CL := [(0, 8, 12), (0, 8, 13), (0, 8, 15), (1, 8, 4), (1, 8, 5), (1, 8, 6), (1, 8, 7), (2, 8, 14)]
theorem w_f_X3_tryPatterns_146 (k38 : HS → Int32 → Int32 → Option HS) (hk_k38 : ∀ (h : HS) (x0 : Int32) (x1 : Int32), pk (k38 h x0 x1) (fun a => Fr S_X3_tryPatterns_38 h a)) (h : HS) (x1 : Int32) (x2 : Int32) : pk (f_X3_tryPatterns_146 k38 h x1 x2) (fun a => Fr S_X3_tryPatterns_38 h a) := by
  unfold f_X3_tryPatterns_146
  exact pk_mono (hk_k38 h x1 (x2 + 1)) (fun _ k => Fr_trans (Fr_refl _ h) k)
theorem fs_tryMarkets__X3_tryPatterns_38 : ∀ x ∈ S_tryMarkets, x ∈ S_X3_tryPatterns_38 := by decide
theorem w_f_X3_tryPatterns_141 (k38 : HS → Int32 → Int32 → Option HS) (hk_k38 : ∀ (h : HS) (x0 : Int32) (x1 : Int32), pk (k38 h x0 x1) (fun a => Fr S_X3_tryPatterns_38 h a)) (h : HS) (x1 : Int32) (x2 : Int32) : pk (f_X3_tryPatterns_141 k38 h x1 x2) (fun a => Fr S_X3_tryPatterns_38 h a) := by
  unfold f_X3_tryPatterns_141
  refine pk_ob1 (w_G_tryMarkets 6 0 h 0) (fun h_17 k_1 => ?_)
  replace k_1 := Fr_trans (Fr_refl _ h) (Fr_mono fs_tryMarkets__X3_tryPatterns_38 k_1)
  exact pk_mono (w_f_X3_tryPatterns_146 k38 hk_k38 h_17 x1 x2) (fun _ k => Fr_trans k_1 k)
theorem fm_X3_tryPatterns_38_1_8_5 : (1, 8, 5) ∈ S_X3_tryPatterns_38 := by decide
theorem fm_X3_tryPatterns_38_1_8_4 : (1, 8, 4) ∈ S_X3_tryPatterns_38 := by decide
theorem fs_X3_missOf_f__X3_tryPatterns_38 : ∀ x ∈ S_X3_missOf_f, x ∈ S_X3_tryPatterns_38 := by decide
theorem fs_X3_isEnough__X3_tryPatterns_38 : ∀ x ∈ S_X3_isEnough, x ∈ S_X3_tryPatterns_38 := by decide
theorem fs_X3_missOf_r__X3_tryPatterns_38 : ∀ x ∈ S_X3_missOf_r, x ∈ S_X3_tryPatterns_38 := by decide
theorem fs_X3_isBetter__X3_tryPatterns_38 : ∀ x ∈ S_X3_isBetter, x ∈ S_X3_tryPatterns_38 := by decide
theorem w_f_X3_tryPatterns_69 (k38 : HS → Int32 → Int32 → Option HS) (hk_k38 : ∀ (h : HS) (x0 : Int32) (x1 : Int32), pk (k38 h x0 x1) (fun a => Fr S_X3_tryPatterns_38 h a)) : ∀ (n : Nat) (h : HS) (x1 : Int32) (x2 : Int32) (x3 : Int32) (x4 : Int32), pk (f_X3_tryPatterns_69 k38 n h x1 x2 x3 x4) (fun a => Fr S_X3_tryPatterns_38 h a) := by
  intro n
  induction n with
  | zero => intro h x1 x2 x3 x4; exact pk_none
  | succ n ih =>
    intro h x1 x2 x3 x4
    rw [f_X3_tryPatterns_69_s]
    refine pk_if (fun _ => ?_) (fun _ => ?_)
    · refine pk_ob2 (w_f_X3_missOf_f h) (fun r_8 h_8 k_1 => ?_)
      replace k_1 := Fr_trans (Fr_refl _ h) (Fr_mono fs_X3_missOf_f__X3_tryPatterns_38 k_1)
      refine pk_ob2 (w_f_X3_isEnough h_8 r_8) (fun r_9 h_9 k_2 => ?_)
      replace k_2 := Fr_trans k_1 (Fr_mono fs_X3_isEnough__X3_tryPatterns_38 k_2)
      refine pk_if (fun _ => ?_) (fun _ => ?_)
      · exact pk_mono (w_f_X3_tryPatterns_146 k38 hk_k38 h_9 x1 x2) (fun _ k => Fr_trans k_2 k)
      · refine pk_if (fun _ => ?_) (fun _ => ?_)
        · refine pk_ob2 (w_f_X3_missOf_r h_9) (fun r_12 h_12 k_3 => ?_)
          replace k_3 := Fr_trans k_2 (Fr_mono fs_X3_missOf_r__X3_tryPatterns_38 k_3)
          refine pk_ob2 (w_f_X3_isBetter h_12 r_12) (fun r_13 h_13 k_4 => ?_)
          replace k_4 := Fr_trans k_3 (Fr_mono fs_X3_isBetter__X3_tryPatterns_38 k_4)
          refine pk_if (fun _ => ?_) (fun _ => ?_)
          · exact pk_mono (w_f_X3_tryPatterns_146 k38 hk_k38 h_13 x1 x2) (fun _ k => Fr_trans k_4 k)
          · exact pk_mono (w_f_X3_tryPatterns_141 k38 hk_k38 h_13 x1 x2) (fun _ k => Fr_trans k_4 k)
        · exact pk_mono (w_f_X3_tryPatterns_141 k38 hk_k38 h_9 x1 x2) (fun _ k => Fr_trans k_2 k)
    · refine pk_chk (fun _ => ?_)
      refine pk_chk (fun _ => ?_)
      exact pk_mono (ih (sA (sA h 8 4 (upd (eA h 8 4) ((x4).toNatClampNeg) (x3 - x3 / 10 * 10))) 8 5 (upd (eA h 8 5) ((x4).toNatClampNeg) 4)) x1 x2 (x3 / 10) (x4 + (-1))) (fun _ k => Fr_trans (Fr_sA fm_X3_tryPatterns_38_1_8_5 (Fr_sA fm_X3_tryPatterns_38_1_8_4 (Fr_refl _ h))) k)
theorem fs_X3_tryPatterns_152__X3_tryPatterns_38 : ∀ x ∈ S_X3_tryPatterns_152, x ∈ S_X3_tryPatterns_38 := by decide
theorem w_f_X3_tryPatterns_38  : ∀ (n : Nat) (h : HS) (x1 : Int32) (x2 : Int32), pk (f_X3_tryPatterns_38  n h x1 x2) (fun a => Fr S_X3_tryPatterns_38 h a) := by
  intro n
  induction n with
  | zero => intro h x1 x2; exact pk_none
  | succ n ih =>
    intro h x1 x2
    rw [f_X3_tryPatterns_38_s]
    refine pk_if (fun _ => ?_) (fun _ => ?_)
    · exact pk_mono (w_f_X3_tryPatterns_152 h) (fun _ k => Fr_trans (Fr_refl _ h) (Fr_mono fs_X3_tryPatterns_152__X3_tryPatterns_38 k))
    · refine pk_if (fun _ => ?_) (fun _ => ?_)
      · exact pk_mono (w_f_X3_tryPatterns_152 h) (fun _ k => Fr_trans (Fr_refl _ h) (Fr_mono fs_X3_tryPatterns_152__X3_tryPatterns_38 k))
      · refine pk_chk (fun _ => ?_)
        exact pk_mono (w_f_X3_tryPatterns_69 (f_X3_tryPatterns_38 n) ih 8589934592 h x1 x2 (gPat ((x2).toNatClampNeg)) ((if 3 < (eI h 8 8) then 3 else (eI h 8 8)) - 1)) (fun _ k => Fr_trans (Fr_refl _ h) k)
def S_X3_tryPatterns_35 : CL := [(0, 8, 12), (0, 8, 13), (0, 8, 15), (1, 8, 4), (1, 8, 5), (1, 8, 6), (1, 8, 7), (2, 8, 14)]
theorem fs_X3_tryPatterns_38__X3_tryPatterns_35 : ∀ x ∈ S_X3_tryPatterns_38, x ∈ S_X3_tryPatterns_35 := by decide
theorem w_f_X3_tryPatterns_35 (h : HS) (y0 : Int32) : pk (f_X3_tryPatterns_35 h y0) (fun a => Fr S_X3_tryPatterns_35 h a) := by
  unfold f_X3_tryPatterns_35
  exact pk_mono (w_f_X3_tryPatterns_38 8589934592 h y0 0) (fun _ k => Fr_trans (Fr_refl _ h) (Fr_mono fs_X3_tryPatterns_38__X3_tryPatterns_35 k))
def S_X3_tryPatterns_34 : CL := [(0, 8, 12), (0, 8, 13), (0, 8, 15), (1, 8, 4), (1, 8, 5), (1, 8, 6), (1, 8, 7), (2, 8, 14)]
theorem fs_X3_tryPatterns_35__X3_tryPatterns_34 : ∀ x ∈ S_X3_tryPatterns_35, x ∈ S_X3_tryPatterns_34 := by decide
theorem w_f_X3_tryPatterns_34 (h : HS) : pk (f_X3_tryPatterns_34 h) (fun a => Fr S_X3_tryPatterns_34 h a) := by
  unfold f_X3_tryPatterns_34
  exact pk_mono (w_f_X3_tryPatterns_35 h 0) (fun _ k => Fr_trans (Fr_refl _ h) (Fr_mono fs_X3_tryPatterns_35__X3_tryPatterns_34 k))
def S_X3_tryPatterns : CL := [(0, 8, 12), (0, 8, 13), (0, 8, 15), (1, 8, 4), (1, 8, 5), (1, 8, 6), (1, 8, 7), (2, 8, 14)]
theorem fm_X3_tryPatterns_0_8_13 : (0, 8, 13) ∈ S_X3_tryPatterns := by decide
theorem fs_X3_tryPatterns_34__X3_tryPatterns : ∀ x ∈ S_X3_tryPatterns_34, x ∈ S_X3_tryPatterns := by decide
theorem fs_X3_tryPatterns_35__X3_tryPatterns : ∀ x ∈ S_X3_tryPatterns_35, x ∈ S_X3_tryPatterns := by decide
theorem w_f_X3_tryPatterns (h : HS) : pk (f_X3_tryPatterns h) (fun a => Fr S_X3_tryPatterns h a) := by
  unfold f_X3_tryPatterns
  refine pk_if (fun _ => ?_) (fun _ => ?_)
  · exact pk_mono (w_f_X3_tryPatterns_34 (sI h 8 13 0)) (fun _ k => Fr_trans (Fr_sI fm_X3_tryPatterns_0_8_13 (Fr_refl _ h)) (Fr_mono fs_X3_tryPatterns_34__X3_tryPatterns k))
  · refine pk_if (fun _ => ?_) (fun _ => ?_)
    · exact pk_mono (w_f_X3_tryPatterns_34 (sI h 8 13 0)) (fun _ k => Fr_trans (Fr_sI fm_X3_tryPatterns_0_8_13 (Fr_refl _ h)) (Fr_mono fs_X3_tryPatterns_34__X3_tryPatterns k))
    · refine pk_chk (fun _ => ?_)
      exact pk_mono (w_f_X3_tryPatterns_35 (sI h 8 13 0) (gCnt (((eI h 8 8)).toNatClampNeg))) (fun _ k => Fr_trans (Fr_sI fm_X3_tryPatterns_0_8_13 (Fr_refl _ h)) (Fr_mono fs_X3_tryPatterns_35__X3_tryPatterns k))
def S_tryGeese : CL := [(0, 8, 12), (0, 8, 13), (0, 8, 15), (1, 8, 3), (1, 8, 4), (1, 8, 5), (1, 8, 6), (1, 8, 7), (2, 8, 14)]
theorem fs_X3_tryPatterns__tryGeese : ∀ x ∈ S_X3_tryPatterns, x ∈ S_tryGeese := by decide
theorem w_f_X3_tryGeese_13 (kR_X3_tryGeese : HS → Int32 → Int32 → Option HS) (hk_kR_X3_tryGeese : ∀ (h : HS) (x0 : Int32) (x1 : Int32), pk (kR_X3_tryGeese h x0 x1) (fun a => Fr S_tryGeese h a)) (h : HS) : pk (f_X3_tryGeese_13 kR_X3_tryGeese h) (fun a => Fr S_tryGeese h a) := by
  unfold f_X3_tryGeese_13
  refine pk_ob1 (w_f_X3_tryPatterns h) (fun h_3 k_1 => ?_)
  replace k_1 := Fr_trans (Fr_refl _ h) (Fr_mono fs_X3_tryPatterns__tryGeese k_1)
  exact pk_some k_1
theorem w_f_X3_tryGeese_52 (kR_X3_tryGeese : HS → Int32 → Int32 → Option HS) (hk_kR_X3_tryGeese : ∀ (h : HS) (x0 : Int32) (x1 : Int32), pk (kR_X3_tryGeese h x0 x1) (fun a => Fr S_tryGeese h a)) (k20 : HS → Int32 → Int32 → Option HS) (hk_k20 : ∀ (h : HS) (x0 : Int32) (x1 : Int32), pk (k20 h x0 x1) (fun a => Fr S_tryGeese h a)) (h : HS) (x1 : Int32) (x3 : Int32) : pk (f_X3_tryGeese_52 kR_X3_tryGeese k20 h x1 x3) (fun a => Fr S_tryGeese h a) := by
  unfold f_X3_tryGeese_52
  exact pk_mono (hk_k20 h x1 (x3 + 1)) (fun _ k => Fr_trans (Fr_refl _ h) k)
theorem fm_tryGeese_1_8_3 : (1, 8, 3) ∈ S_tryGeese := by decide
theorem w_f_X3_tryGeese_20 (kR_X3_tryGeese : HS → Int32 → Int32 → Option HS) (hk_kR_X3_tryGeese : ∀ (h : HS) (x0 : Int32) (x1 : Int32), pk (kR_X3_tryGeese h x0 x1) (fun a => Fr S_tryGeese h a)) : ∀ (n : Nat) (h : HS) (x1 : Int32) (x3 : Int32), pk (f_X3_tryGeese_20 kR_X3_tryGeese n h x1 x3) (fun a => Fr S_tryGeese h a) := by
  intro n
  induction n with
  | zero => intro h x1 x3; exact pk_none
  | succ n ih =>
    intro h x1 x3
    rw [f_X3_tryGeese_20_s]
    refine pk_if (fun _ => ?_) (fun _ => ?_)
    · exact pk_some (Fr_refl _ h)
    · refine pk_chk (fun _ => ?_)
      refine pk_if (fun _ => ?_) (fun _ => ?_)
      · exact pk_mono (w_f_X3_tryGeese_52 kR_X3_tryGeese hk_kR_X3_tryGeese (f_X3_tryGeese_20 kR_X3_tryGeese n) ih h x1 x3) (fun _ k => Fr_trans (Fr_refl _ h) k)
      · refine pk_chk (fun _ => ?_)
        refine pk_ob1 (hk_kR_X3_tryGeese (sA h 8 3 (upd (eA h 8 3) ((x1).toNatClampNeg) x3)) (x1 + 1) (x3 + 1)) (fun h_8 k_1 => ?_)
        replace k_1 := Fr_trans (Fr_sA fm_tryGeese_1_8_3 (Fr_refl _ h)) k_1
        exact pk_mono (w_f_X3_tryGeese_52 kR_X3_tryGeese hk_kR_X3_tryGeese (f_X3_tryGeese_20 kR_X3_tryGeese n) ih h_8 x1 x3) (fun _ k => Fr_trans k_1 k)
theorem w_f_X3_tryGeese_b (kR_X3_tryGeese : HS → Int32 → Int32 → Option HS) (hk_kR_X3_tryGeese : ∀ (h : HS) (x0 : Int32) (x1 : Int32), pk (kR_X3_tryGeese h x0 x1) (fun a => Fr S_tryGeese h a)) (h : HS) (p1 : Int32) (p2 : Int32) : pk (f_X3_tryGeese_b kR_X3_tryGeese h p1 p2) (fun a => Fr S_tryGeese h a) := by
  unfold f_X3_tryGeese_b
  refine pk_if (fun _ => ?_) (fun _ => ?_)
  · exact pk_mono (w_f_X3_tryGeese_13 kR_X3_tryGeese hk_kR_X3_tryGeese h) (fun _ k => Fr_trans (Fr_refl _ h) k)
  · refine pk_if (fun _ => ?_) (fun _ => ?_)
    · exact pk_mono (w_f_X3_tryGeese_20 kR_X3_tryGeese hk_kR_X3_tryGeese 8589934592 h p1 p2) (fun _ k => Fr_trans (Fr_refl _ h) k)
    · exact pk_mono (w_f_X3_tryGeese_13 kR_X3_tryGeese hk_kR_X3_tryGeese h) (fun _ k => Fr_trans (Fr_refl _ h) k)
theorem w_G_tryGeese : ∀ (n t : Nat) (h : HS) (p1 p2 : Int32), pk (G_tryGeese n t h p1 p2) (fun a => Fr S_tryGeese h a) := by
  intro n
  induction n with
  | zero => intro t h p1 p2; exact (by simp [G_tryGeese]; exact pk_none)
  | succ n ih =>
    intro t h p1 p2
    exact w_f_X3_tryGeese_b (fun h p1 p2 => G_tryGeese n 0 h p1 p2) (fun h p1 p2 => ih 0 h p1 p2) h p1 p2
def S_X3_weighGoose_3 : CL := [(0, 6, 3), (1, 6, 1), (1, 6, 2), (1, 8, 0), (1, 8, 1)]
theorem fm_X3_weighGoose_3_1_8_0 : (1, 8, 0) ∈ S_X3_weighGoose_3 := by decide
theorem fm_X3_weighGoose_3_1_8_1 : (1, 8, 1) ∈ S_X3_weighGoose_3 := by decide
theorem fs_X1_rule__X3_weighGoose_3 : ∀ x ∈ S_X1_rule, x ∈ S_X3_weighGoose_3 := by decide
theorem w_f_X3_weighGoose_133 (k3 : HS → Int32 → Int32 → Int32 → Option HS) (hk_k3 : ∀ (h : HS) (x0 : Int32) (x1 : Int32) (x2 : Int32), pk (k3 h x0 x1 x2) (fun a => Fr S_X3_weighGoose_3 h a)) (k64 : HS → Int32 → Int32 → Int32 → Int32 → Int32 → Int32 → Option HS) (hk_k64 : ∀ (h : HS) (x0 : Int32) (x1 : Int32) (x2 : Int32) (x3 : Int32) (x4 : Int32) (x5 : Int32), pk (k64 h x0 x1 x2 x3 x4 x5) (fun a => Fr S_X3_weighGoose_3 h a)) (h : HS) (x3 : Int32) (x4 : Int32) (x5 : Int32) (x6 : Int32) (x7 : Int32) (x8 : Int32) (x9 : Int32) (x10 : Int32) (y0 : Int32) (y1 : Int32) : pk (f_X3_weighGoose_133 k3 k64 h x3 x4 x5 x6 x7 x8 x9 x10 y0 y1) (fun a => Fr S_X3_weighGoose_3 h a) := by
  unfold f_X3_weighGoose_133
  refine pk_chk (fun _ => ?_)
  refine pk_ob2 (w_f_X1_rule (sA h 8 0 (upd (eA h 8 0) ((y1).toNatClampNeg) y0)) 1) (fun r_15 h_15 k_1 => ?_)
  replace k_1 := Fr_trans (Fr_sA fm_X3_weighGoose_3_1_8_0 (Fr_refl _ h)) (Fr_mono fs_X1_rule__X3_weighGoose_3 k_1)
  refine pk_chk (fun _ => ?_)
  refine pk_chk (fun _ => ?_)
  refine pk_chk (fun _ => ?_)
  refine pk_chk (fun _ => ?_)
  refine pk_chk (fun _ => ?_)
  refine pk_chk (fun _ => ?_)
  refine pk_chk (fun _ => ?_)
  exact pk_mono (hk_k64 (sA (sA (sA h_15 8 1 (upd (eA h_15 8 1) ((x10).toNatClampNeg) (x9 * r_15))) 8 0 (upd (eA h_15 8 0) ((x7).toNatClampNeg) (if ((eA h_15 8 0) ((x7).toNatClampNeg)) < ((eA h_15 8 0) ((x10).toNatClampNeg)) then ((eA h_15 8 0) ((x10).toNatClampNeg)) else ((eA h_15 8 0) ((x7).toNatClampNeg))))) 8 1 (upd (upd (eA h_15 8 1) ((x10).toNatClampNeg) (x9 * r_15)) ((x7).toNatClampNeg) (if ((upd (eA h_15 8 1) ((x10).toNatClampNeg) (x9 * r_15)) ((x10).toNatClampNeg)) < ((upd (eA h_15 8 1) ((x10).toNatClampNeg) (x9 * r_15)) ((x7).toNatClampNeg)) then ((upd (eA h_15 8 1) ((x10).toNatClampNeg) (x9 * r_15)) ((x10).toNatClampNeg)) else ((upd (eA h_15 8 1) ((x10).toNatClampNeg) (x9 * r_15)) ((x7).toNatClampNeg))))) x3 x4 x5 x6 x7 (x8 + 1)) (fun _ k => Fr_trans (Fr_sA fm_X3_weighGoose_3_1_8_1 (Fr_sA fm_X3_weighGoose_3_1_8_0 (Fr_sA fm_X3_weighGoose_3_1_8_1 k_1))) k)
theorem fs_X4_ofMarket__X3_weighGoose_3 : ∀ x ∈ S_X4_ofMarket, x ∈ S_X3_weighGoose_3 := by decide
theorem fs_X1_lookAtMarket__X3_weighGoose_3 : ∀ x ∈ S_X1_lookAtMarket, x ∈ S_X3_weighGoose_3 := by decide
theorem w_f_X3_weighGoose_64 (k3 : HS → Int32 → Int32 → Int32 → Option HS) (hk_k3 : ∀ (h : HS) (x0 : Int32) (x1 : Int32) (x2 : Int32), pk (k3 h x0 x1 x2) (fun a => Fr S_X3_weighGoose_3 h a)) : ∀ (n : Nat) (h : HS) (x3 : Int32) (x4 : Int32) (x5 : Int32) (x6 : Int32) (x7 : Int32) (x8 : Int32), pk (f_X3_weighGoose_64 k3 n h x3 x4 x5 x6 x7 x8) (fun a => Fr S_X3_weighGoose_3 h a) := by
  intro n
  induction n with
  | zero => intro h x3 x4 x5 x6 x7 x8; exact pk_none
  | succ n ih =>
    intro h x3 x4 x5 x6 x7 x8
    rw [f_X3_weighGoose_64_s]
    refine pk_if (fun _ => ?_) (fun _ => ?_)
    · exact pk_mono (hk_k3 h x3 x4 (x5 + 1)) (fun _ k => Fr_trans (Fr_refl _ h) k)
    · refine pk_ob2 (w_f_X4_ofMarket h x8 0) (fun r_9 h_9 k_1 => ?_)
      replace k_1 := Fr_trans (Fr_refl _ h) (Fr_mono fs_X4_ofMarket__X3_weighGoose_3 k_1)
      refine pk_ob1 (w_f_X1_lookAtMarket h_9 x8 ((eI h 1 7) + r_9)) (fun h_10 k_2 => ?_)
      replace k_2 := Fr_trans k_1 (Fr_mono fs_X1_lookAtMarket__X3_weighGoose_3 k_2)
      refine pk_ob2 (w_f_X1_rule h_10 0) (fun r_11 h_11 k_3 => ?_)
      replace k_3 := Fr_trans k_2 (Fr_mono fs_X1_rule__X3_weighGoose_3 k_3)
      refine pk_obf (fun r_12 => ?_)
      refine pk_if (fun _ => ?_) (fun _ => ?_)
      · exact pk_mono (w_f_X3_weighGoose_133 k3 hk_k3 (f_X3_weighGoose_64 k3 n) ih h_11 x3 x4 x5 x6 x7 x8 r_11 r_12 0 r_12) (fun _ k => Fr_trans k_3 k)
      · exact pk_mono (w_f_X3_weighGoose_133 k3 hk_k3 (f_X3_weighGoose_64 k3 n) ih h_11 x3 x4 x5 x6 x7 x8 r_11 r_12 ((10 - r_11) * 10) r_12) (fun _ k => Fr_trans k_3 k)
theorem w_f_X3_weighGoose_33 (k3 : HS → Int32 → Int32 → Int32 → Option HS) (hk_k3 : ∀ (h : HS) (x0 : Int32) (x1 : Int32) (x2 : Int32), pk (k3 h x0 x1 x2) (fun a => Fr S_X3_weighGoose_3 h a)) (h : HS) (x3 : Int32) (x4 : Int32) (x5 : Int32) (y0 : Int32) : pk (f_X3_weighGoose_33 k3 h x3 x4 x5 y0) (fun a => Fr S_X3_weighGoose_3 h a) := by
  unfold f_X3_weighGoose_33
  refine pk_obf (fun r_5 => ?_)
  refine pk_chk (fun _ => ?_)
  refine pk_chk (fun _ => ?_)
  exact pk_mono (w_f_X3_weighGoose_64 k3 hk_k3 8589934592 (sA (sA h 8 0 (upd (eA h 8 0) ((r_5).toNatClampNeg) 0)) 8 1 (upd (eA h 8 1) ((r_5).toNatClampNeg) 100)) x3 x4 x5 y0 r_5 0) (fun _ k => Fr_trans (Fr_sA fm_X3_weighGoose_3_1_8_1 (Fr_sA fm_X3_weighGoose_3_1_8_0 (Fr_refl _ h))) k)
theorem fs_X1_lookAtFilled__X3_weighGoose_3 : ∀ x ∈ S_X1_lookAtFilled, x ∈ S_X3_weighGoose_3 := by decide
theorem w_f_X3_weighGoose_3  : ∀ (n : Nat) (h : HS) (x3 : Int32) (x4 : Int32) (x5 : Int32), pk (f_X3_weighGoose_3  n h x3 x4 x5) (fun a => Fr S_X3_weighGoose_3 h a) := by
  intro n
  induction n with
  | zero => intro h x3 x4 x5; exact pk_none
  | succ n ih =>
    intro h x3 x4 x5
    rw [f_X3_weighGoose_3_s]
    refine pk_if (fun _ => ?_) (fun _ => ?_)
    · exact pk_some (Fr_refl _ h)
    · refine pk_ob1 (w_f_X1_lookAtFilled h x3 x4 x5) (fun h_2 k_1 => ?_)
      replace k_1 := Fr_trans (Fr_refl _ h) (Fr_mono fs_X1_lookAtFilled__X3_weighGoose_3 k_1)
      refine pk_ob2 (w_f_X1_rule h_2 3) (fun r_3 h_3 k_2 => ?_)
      replace k_2 := Fr_trans k_1 (Fr_mono fs_X1_rule__X3_weighGoose_3 k_2)
      refine pk_if (fun _ => ?_) (fun _ => ?_)
      · exact pk_mono (w_f_X3_weighGoose_33 (f_X3_weighGoose_3 n) ih h_3 x3 x4 x5 0) (fun _ k => Fr_trans k_2 k)
      · exact pk_mono (w_f_X3_weighGoose_33 (f_X3_weighGoose_3 n) ih h_3 x3 x4 x5 1) (fun _ k => Fr_trans k_2 k)
def S_X3_weighGoose : CL := [(0, 6, 3), (1, 6, 1), (1, 6, 2), (1, 8, 0), (1, 8, 1)]
theorem fs_X3_weighGoose_3__X3_weighGoose : ∀ x ∈ S_X3_weighGoose_3, x ∈ S_X3_weighGoose := by decide
theorem w_f_X3_weighGoose (h : HS) (p1 : Int32) (p2 : Int32) : pk (f_X3_weighGoose h p1 p2) (fun a => Fr S_X3_weighGoose h a) := by
  unfold f_X3_weighGoose
  exact pk_mono (w_f_X3_weighGoose_3 8589934592 h p1 p2 0) (fun _ k => Fr_trans (Fr_refl _ h) (Fr_mono fs_X3_weighGoose_3__X3_weighGoose k))
def S_X3_fewest_98 : CL := [(0, 8, 8), (0, 8, 12), (0, 8, 13), (0, 8, 15), (1, 8, 3), (1, 8, 4), (1, 8, 5), (1, 8, 6), (1, 8, 7), (2, 8, 9), (2, 8, 14)]
theorem fm_X3_fewest_98_2_8_9 : (2, 8, 9) ∈ S_X3_fewest_98 := by decide
theorem fm_X3_fewest_98_0_8_8 : (0, 8, 8) ∈ S_X3_fewest_98 := by decide
theorem fs_tryGeese__X3_fewest_98 : ∀ x ∈ S_tryGeese, x ∈ S_X3_fewest_98 := by decide
theorem w_f_X3_fewest_98  : ∀ (n : Nat) (h : HS) (x5 : Int32), pk (f_X3_fewest_98  n h x5) (fun a => Fr S_X3_fewest_98 h a.2) := by
  intro n
  induction n with
  | zero => intro h x5; exact pk_none
  | succ n ih =>
    intro h x5
    rw [f_X3_fewest_98_s]
    refine pk_if (fun _ => ?_) (fun _ => ?_)
    · exact pk_some (Fr_refl _ h)
    · refine pk_ob1 (w_G_tryGeese 6 0 (sL (sI h 8 8 x5) 8 9 ((eL h 8 9) * 100)) 0 0) (fun h_7 k_1 => ?_)
      replace k_1 := Fr_trans (Fr_sL fm_X3_fewest_98_2_8_9 (Fr_sI fm_X3_fewest_98_0_8_8 (Fr_refl _ h))) (Fr_mono fs_tryGeese__X3_fewest_98 k_1)
      refine pk_if (fun _ => ?_) (fun _ => ?_)
      · exact pk_mono (ih h_7 (x5 + 1)) (fun _ k => Fr_trans k_1 k)
      · exact pk_some k_1
def S_X3_fewest_31 : CL := [(0, 6, 3), (0, 8, 8), (0, 8, 12), (0, 8, 13), (0, 8, 15), (1, 6, 1), (1, 6, 2), (1, 8, 0), (1, 8, 1), (1, 8, 2), (1, 8, 3), (1, 8, 4), (1, 8, 5), (1, 8, 6), (1, 8, 7), (2, 8, 9), (2, 8, 14)]
theorem w_f_X3_fewest_89 (k31 : HS → Int32 → Int32 → Option (Int32 × HS)) (hk_k31 : ∀ (h : HS) (x0 : Int32) (x1 : Int32), pk (k31 h x0 x1) (fun a => Fr S_X3_fewest_31 h a.2)) (h : HS) (x3 : Int32) (x5 : Int32) : pk (f_X3_fewest_89 k31 h x3 x5) (fun a => Fr S_X3_fewest_31 h a.2) := by
  unfold f_X3_fewest_89
  exact pk_mono (hk_k31 h x3 (x5 + 1)) (fun _ k => Fr_trans (Fr_refl _ h) k)
theorem fm_X3_fewest_31_1_8_2 : (1, 8, 2) ∈ S_X3_fewest_31 := by decide
theorem fs_X3_weighGoose__X3_fewest_31 : ∀ x ∈ S_X3_weighGoose, x ∈ S_X3_fewest_31 := by decide
theorem w_f_X3_fewest_69 (k31 : HS → Int32 → Int32 → Option (Int32 × HS)) (hk_k31 : ∀ (h : HS) (x0 : Int32) (x1 : Int32), pk (k31 h x0 x1) (fun a => Fr S_X3_fewest_31 h a.2)) (h : HS) (x3 : Int32) (x5 : Int32) (y0 : Int32) (y1 : Int32) : pk (f_X3_fewest_69 k31 h x3 x5 y0 y1) (fun a => Fr S_X3_fewest_31 h a.2) := by
  unfold f_X3_fewest_69
  refine pk_chk (fun _ => ?_)
  refine pk_chk (fun _ => ?_)
  refine pk_if (fun _ => ?_) (fun _ => ?_)
  · exact pk_mono (w_f_X3_fewest_89 k31 hk_k31 (sA h 8 2 (upd (eA h 8 2) ((y1).toNatClampNeg) (vp_nar .boolean y0))) x3 x5) (fun _ k => Fr_trans (Fr_sA fm_X3_fewest_31_1_8_2 (Fr_refl _ h)) k)
  · refine pk_ob1 (w_f_X3_weighGoose (sA h 8 2 (upd (eA h 8 2) ((y1).toNatClampNeg) (vp_nar .boolean y0))) x5 x3) (fun h_12 k_1 => ?_)
    replace k_1 := Fr_trans (Fr_sA fm_X3_fewest_31_1_8_2 (Fr_refl _ h)) (Fr_mono fs_X3_weighGoose__X3_fewest_31 k_1)
    exact pk_mono (w_f_X3_fewest_89 k31 hk_k31 h_12 x3 x5) (fun _ k => Fr_trans k_1 k)
theorem w_f_X3_fewest_68 (k31 : HS → Int32 → Int32 → Option (Int32 × HS)) (hk_k31 : ∀ (h : HS) (x0 : Int32) (x1 : Int32), pk (k31 h x0 x1) (fun a => Fr S_X3_fewest_31 h a.2)) (h : HS) (x3 : Int32) (x5 : Int32) (y0 : Int32) : pk (f_X3_fewest_68 k31 h x3 x5 y0) (fun a => Fr S_X3_fewest_31 h a.2) := by
  unfold f_X3_fewest_68
  exact pk_mono (w_f_X3_fewest_69 k31 hk_k31 h x3 x5 0 y0) (fun _ k => Fr_trans (Fr_refl _ h) k)
theorem fs_X3_fewest_98__X3_fewest_31 : ∀ x ∈ S_X3_fewest_98, x ∈ S_X3_fewest_31 := by decide
theorem fs_X4_isFree__X3_fewest_31 : ∀ x ∈ S_X4_isFree, x ∈ S_X3_fewest_31 := by decide
theorem fs_X4_ofGoose__X3_fewest_31 : ∀ x ∈ S_X4_ofGoose, x ∈ S_X3_fewest_31 := by decide
theorem w_f_X3_fewest_31  : ∀ (n : Nat) (h : HS) (x3 : Int32) (x5 : Int32), pk (f_X3_fewest_31  n h x3 x5) (fun a => Fr S_X3_fewest_31 h a.2) := by
  intro n
  induction n with
  | zero => intro h x3 x5; exact pk_none
  | succ n ih =>
    intro h x3 x5
    rw [f_X3_fewest_31_s]
    refine pk_if (fun _ => ?_) (fun _ => ?_)
    · exact pk_mono (w_f_X3_fewest_98 8589934592 h 1) (fun _ k => Fr_trans (Fr_refl _ h) (Fr_mono fs_X3_fewest_98__X3_fewest_31 k))
    · refine pk_ob2 (w_f_X4_isFree h x5) (fun r_2 h_2 k_1 => ?_)
      replace k_1 := Fr_trans (Fr_refl _ h) (Fr_mono fs_X4_isFree__X3_fewest_31 k_1)
      refine pk_if (fun _ => ?_) (fun _ => ?_)
      · exact pk_mono (w_f_X3_fewest_68 (f_X3_fewest_31 n) ih h_2 x3 x5 x5) (fun _ k => Fr_trans k_1 k)
      · refine pk_ob2 (w_f_X4_ofGoose h_2 x5 2) (fun r_4 h_4 k_2 => ?_)
        replace k_2 := Fr_trans k_1 (Fr_mono fs_X4_ofGoose__X3_fewest_31 k_2)
        refine pk_if (fun _ => ?_) (fun _ => ?_)
        · exact pk_mono (w_f_X3_fewest_69 (f_X3_fewest_31 n) ih h_4 x3 x5 1 x5) (fun _ k => Fr_trans k_2 k)
        · exact pk_mono (w_f_X3_fewest_68 (f_X3_fewest_31 n) ih h_4 x3 x5 x5) (fun _ k => Fr_trans k_2 k)
def S_X3_fewest : CL := [(0, 6, 3), (0, 8, 8), (0, 8, 10), (0, 8, 11), (0, 8, 12), (0, 8, 13), (0, 8, 15), (1, 6, 1), (1, 6, 2), (1, 8, 0), (1, 8, 1), (1, 8, 2), (1, 8, 3), (1, 8, 4), (1, 8, 5), (1, 8, 6), (1, 8, 7), (2, 8, 9), (2, 8, 14)]
theorem fm_X3_fewest_0_8_11 : (0, 8, 11) ∈ S_X3_fewest := by decide
theorem fm_X3_fewest_0_8_12 : (0, 8, 12) ∈ S_X3_fewest := by decide
theorem fm_X3_fewest_2_8_9 : (2, 8, 9) ∈ S_X3_fewest := by decide
theorem fm_X3_fewest_0_8_10 : (0, 8, 10) ∈ S_X3_fewest := by decide
theorem fs_X3_fewest_31__X3_fewest : ∀ x ∈ S_X3_fewest_31, x ∈ S_X3_fewest := by decide
theorem w_f_X3_fewest (h : HS) (p1 : Int32) (p2 : Int32) : pk (f_X3_fewest h p1 p2) (fun a => Fr S_X3_fewest h a.2) := by
  unfold f_X3_fewest
  exact pk_mono (w_f_X3_fewest_31 8589934592 (sI (sI (sL (sI h 8 10 p2) 8 9 1) 8 12 0) 8 11 (if (eI h 1 4) < 4 then (eI h 1 4) else 4)) p1 0) (fun _ k => Fr_trans (Fr_sI fm_X3_fewest_0_8_11 (Fr_sI fm_X3_fewest_0_8_12 (Fr_sL fm_X3_fewest_2_8_9 (Fr_sI fm_X3_fewest_0_8_10 (Fr_refl _ h))))) (Fr_mono fs_X3_fewest_31__X3_fewest k))
def S_X2_fail_20 : CL := []
theorem w_f_X2_fail_20 (h : HS) : pk (f_X2_fail_20 h) (fun a => Fr S_X2_fail_20 h a) := by
  unfold f_X2_fail_20
  exact pk_some (Fr_refl _ h)
def S_X2_fail : CL := [(0, 5, 0), (0, 5, 1)]
theorem fm_X2_fail_0_5_0 : (0, 5, 0) ∈ S_X2_fail := by decide
theorem fm_X2_fail_0_5_1 : (0, 5, 1) ∈ S_X2_fail := by decide
theorem fs_X7_start__X2_fail : ∀ x ∈ S_X7_start, x ∈ S_X2_fail := by decide
theorem fs_X2_fail_20__X2_fail : ∀ x ∈ S_X2_fail_20, x ∈ S_X2_fail := by decide
theorem w_f_X2_fail (h : HS) (p1 : Int32) : pk (f_X2_fail h p1) (fun a => Fr S_X2_fail h a) := by
  unfold f_X2_fail
  refine pk_if (fun _ => ?_) (fun _ => ?_)
  · refine pk_ob2 (w_f_X7_start (sI h 5 0 p1)) (fun r_2 h_2 k_1 => ?_)
    replace k_1 := Fr_trans (Fr_sI fm_X2_fail_0_5_0 (Fr_refl _ h)) (Fr_mono fs_X7_start__X2_fail k_1)
    exact pk_mono (w_f_X2_fail_20 (sI h_2 5 1 r_2)) (fun _ k => Fr_trans (Fr_sI fm_X2_fail_0_5_1 k_1) (Fr_mono fs_X2_fail_20__X2_fail k))
  · exact pk_mono (w_f_X2_fail_20 h) (fun _ k => Fr_trans (Fr_refl _ h) (Fr_mono fs_X2_fail_20__X2_fail k))
def S_X2_expect_29 : CL := []
theorem w_f_X2_expect_29 (h : HS) : pk (f_X2_expect_29 h) (fun a => Fr S_X2_expect_29 h a) := by
  unfold f_X2_expect_29
  exact pk_some (Fr_refl _ h)
def S_X2_expect : CL := [(0, 4, 4), (0, 5, 0), (0, 5, 1)]
theorem fs_X7_kind__X2_expect : ∀ x ∈ S_X7_kind, x ∈ S_X2_expect := by decide
theorem fs_X7_advance__X2_expect : ∀ x ∈ S_X7_advance, x ∈ S_X2_expect := by decide
theorem fs_X2_expect_29__X2_expect : ∀ x ∈ S_X2_expect_29, x ∈ S_X2_expect := by decide
theorem fs_X2_fail__X2_expect : ∀ x ∈ S_X2_fail, x ∈ S_X2_expect := by decide
theorem w_f_X2_expect (h : HS) (p1 : Int32) : pk (f_X2_expect h p1) (fun a => Fr S_X2_expect h a) := by
  unfold f_X2_expect
  refine pk_if (fun _ => ?_) (fun _ => ?_)
  · refine pk_ob2 (w_f_X7_kind h) (fun r_2 h_2 k_1 => ?_)
    replace k_1 := Fr_trans (Fr_refl _ h) (Fr_mono fs_X7_kind__X2_expect k_1)
    refine pk_if (fun _ => ?_) (fun _ => ?_)
    · refine pk_ob1 (w_f_X7_advance h_2) (fun h_5 k_2 => ?_)
      replace k_2 := Fr_trans k_1 (Fr_mono fs_X7_advance__X2_expect k_2)
      exact pk_mono (w_f_X2_expect_29 h_5) (fun _ k => Fr_trans k_2 (Fr_mono fs_X2_expect_29__X2_expect k))
    · refine pk_ob1 (w_f_X2_fail h_2 1) (fun h_4 k_3 => ?_)
      replace k_3 := Fr_trans k_1 (Fr_mono fs_X2_fail__X2_expect k_3)
      exact pk_mono (w_f_X2_expect_29 h_4) (fun _ k => Fr_trans k_3 (Fr_mono fs_X2_expect_29__X2_expect k))
  · exact pk_some (Fr_refl _ h)
def S_X2_opens : CL := [(0, 4, 4), (0, 5, 0), (0, 5, 1)]
theorem fs_X7_advance__X2_opens : ∀ x ∈ S_X7_advance, x ∈ S_X2_opens := by decide
theorem fs_X2_fail__X2_opens : ∀ x ∈ S_X2_fail, x ∈ S_X2_opens := by decide
theorem w_f_X2_opens (h : HS) (p1 : Int32) : pk (f_X2_opens h p1) (fun a => Fr S_X2_opens h a.2) := by
  unfold f_X2_opens
  refine pk_if (fun _ => ?_) (fun _ => ?_)
  · refine pk_ob1 (w_f_X7_advance h) (fun h_2 k_1 => ?_)
    replace k_1 := Fr_trans (Fr_refl _ h) (Fr_mono fs_X7_advance__X2_opens k_1)
    exact pk_some k_1
  · refine pk_ob1 (w_f_X2_fail h 3) (fun h_3 k_2 => ?_)
    replace k_2 := Fr_trans (Fr_refl _ h) (Fr_mono fs_X2_fail__X2_opens k_2)
    exact pk_some k_2
def S_X2_readValue_0 : CL := [(0, 4, 4), (0, 5, 0), (0, 5, 1), (0, 9, 5), (1, 9, 2)]
theorem fs_X7_value__X2_readValue_0 : ∀ x ∈ S_X7_value, x ∈ S_X2_readValue_0 := by decide
theorem fs_X6_addStep_0__X2_readValue_0 : ∀ x ∈ S_X6_addStep_0, x ∈ S_X2_readValue_0 := by decide
theorem fs_X7_advance__X2_readValue_0 : ∀ x ∈ S_X7_advance, x ∈ S_X2_readValue_0 := by decide
theorem fs_X2_fail__X2_readValue_0 : ∀ x ∈ S_X2_fail, x ∈ S_X2_readValue_0 := by decide
theorem w_f_X2_readValue_0 (h : HS) : pk (f_X2_readValue_0 h) (fun a => Fr S_X2_readValue_0 h a) := by
  unfold f_X2_readValue_0
  refine pk_ob2 (w_f_X7_value h) (fun r_1 h_1 k_1 => ?_)
  replace k_1 := Fr_trans (Fr_refl _ h) (Fr_mono fs_X7_value__X2_readValue_0 k_1)
  refine pk_if (fun _ => ?_) (fun _ => ?_)
  · refine pk_ob2 (w_f_X7_value h_1) (fun r_3 h_3 k_2 => ?_)
    replace k_2 := Fr_trans k_1 (Fr_mono fs_X7_value__X2_readValue_0 k_2)
    refine pk_ob1 (w_f_X6_addStep_0 h_3 r_3) (fun h_4 k_3 => ?_)
    replace k_3 := Fr_trans k_2 (Fr_mono fs_X6_addStep_0__X2_readValue_0 k_3)
    refine pk_ob1 (w_f_X7_advance h_4) (fun h_5 k_4 => ?_)
    replace k_4 := Fr_trans k_3 (Fr_mono fs_X7_advance__X2_readValue_0 k_4)
    exact pk_some k_4
  · refine pk_ob1 (w_f_X2_fail h_1 2) (fun h_6 k_5 => ?_)
    replace k_5 := Fr_trans k_1 (Fr_mono fs_X2_fail__X2_readValue_0 k_5)
    exact pk_some k_5
def S_X2_readName_0_31 : CL := [(0, 4, 4), (0, 9, 5), (1, 9, 2)]
theorem fs_X7_kind__X2_readName_0_31 : ∀ x ∈ S_X7_kind, x ∈ S_X2_readName_0_31 := by decide
theorem fs_X6_addStep_0__X2_readName_0_31 : ∀ x ∈ S_X6_addStep_0, x ∈ S_X2_readName_0_31 := by decide
theorem fs_X7_advance__X2_readName_0_31 : ∀ x ∈ S_X7_advance, x ∈ S_X2_readName_0_31 := by decide
theorem w_f_X2_readName_0_31 (h : HS) : pk (f_X2_readName_0_31 h) (fun a => Fr S_X2_readName_0_31 h a) := by
  unfold f_X2_readName_0_31
  refine pk_ob2 (w_f_X7_kind h) (fun r_6 h_6 k_1 => ?_)
  replace k_1 := Fr_trans (Fr_refl _ h) (Fr_mono fs_X7_kind__X2_readName_0_31 k_1)
  refine pk_ob1 (w_f_X6_addStep_0 h_6 ((10000 + r_6) - 29)) (fun h_7 k_2 => ?_)
  replace k_2 := Fr_trans k_1 (Fr_mono fs_X6_addStep_0__X2_readName_0_31 k_2)
  refine pk_ob1 (w_f_X7_advance h_7) (fun h_8 k_3 => ?_)
  replace k_3 := Fr_trans k_2 (Fr_mono fs_X7_advance__X2_readName_0_31 k_3)
  exact pk_some k_3
def S_X2_readName_0 : CL := [(0, 4, 4), (0, 5, 0), (0, 5, 1), (0, 9, 5), (1, 9, 2)]
theorem fs_X7_kind__X2_readName_0 : ∀ x ∈ S_X7_kind, x ∈ S_X2_readName_0 := by decide
theorem fs_X2_readName_0_31__X2_readName_0 : ∀ x ∈ S_X2_readName_0_31, x ∈ S_X2_readName_0 := by decide
theorem fs_X2_fail__X2_readName_0 : ∀ x ∈ S_X2_fail, x ∈ S_X2_readName_0 := by decide
theorem w_f_X2_readName_0 (h : HS) : pk (f_X2_readName_0 h) (fun a => Fr S_X2_readName_0 h a) := by
  unfold f_X2_readName_0
  refine pk_ob2 (w_f_X7_kind h) (fun r_1 h_1 k_1 => ?_)
  replace k_1 := Fr_trans (Fr_refl _ h) (Fr_mono fs_X7_kind__X2_readName_0 k_1)
  refine pk_if (fun _ => ?_) (fun _ => ?_)
  · exact pk_mono (w_f_X2_readName_0_31 h_1) (fun _ k => Fr_trans k_1 (Fr_mono fs_X2_readName_0_31__X2_readName_0 k))
  · refine pk_if (fun _ => ?_) (fun _ => ?_)
    · exact pk_mono (w_f_X2_readName_0_31 h_1) (fun _ k => Fr_trans k_1 (Fr_mono fs_X2_readName_0_31__X2_readName_0 k))
    · refine pk_if (fun _ => ?_) (fun _ => ?_)
      · exact pk_mono (w_f_X2_readName_0_31 h_1) (fun _ k => Fr_trans k_1 (Fr_mono fs_X2_readName_0_31__X2_readName_0 k))
      · refine pk_ob1 (w_f_X2_fail h_1 5) (fun h_5 k_2 => ?_)
        replace k_2 := Fr_trans k_1 (Fr_mono fs_X2_fail__X2_readName_0 k_2)
        exact pk_some k_2
def S_X2_readNumber_0_69 : CL := []
theorem w_f_X2_readNumber_0_69 (h : HS) : pk (f_X2_readNumber_0_69 h) (fun a => Fr S_X2_readNumber_0_69 h a) := by
  unfold f_X2_readNumber_0_69
  exact pk_some (Fr_refl _ h)
def S_X2_readNumber_0_43 : CL := [(0, 5, 0), (0, 5, 1)]
theorem fs_X2_fail__X2_readNumber_0_43 : ∀ x ∈ S_X2_fail, x ∈ S_X2_readNumber_0_43 := by decide
theorem fs_X2_readNumber_0_69__X2_readNumber_0_43 : ∀ x ∈ S_X2_readNumber_0_69, x ∈ S_X2_readNumber_0_43 := by decide
theorem w_f_X2_readNumber_0_43 (h : HS) : pk (f_X2_readNumber_0_43 h) (fun a => Fr S_X2_readNumber_0_43 h a) := by
  unfold f_X2_readNumber_0_43
  refine pk_ob1 (w_f_X2_fail h 2) (fun h_12 k_1 => ?_)
  replace k_1 := Fr_trans (Fr_refl _ h) (Fr_mono fs_X2_fail__X2_readNumber_0_43 k_1)
  exact pk_mono (w_f_X2_readNumber_0_69 h_12) (fun _ k => Fr_trans k_1 (Fr_mono fs_X2_readNumber_0_69__X2_readNumber_0_43 k))
def S_X2_readNumber_0 : CL := [(0, 4, 4), (0, 5, 0), (0, 5, 1), (1, 9, 0)]
theorem fs_X7_kind__X2_readNumber_0 : ∀ x ∈ S_X7_kind, x ∈ S_X2_readNumber_0 := by decide
theorem fs_X7_value__X2_readNumber_0 : ∀ x ∈ S_X7_value, x ∈ S_X2_readNumber_0 := by decide
theorem fs_X2_readNumber_0_43__X2_readNumber_0 : ∀ x ∈ S_X2_readNumber_0_43, x ∈ S_X2_readNumber_0 := by decide
theorem fs_X6_setClause_0__X2_readNumber_0 : ∀ x ∈ S_X6_setClause_0, x ∈ S_X2_readNumber_0 := by decide
theorem fs_X7_advance__X2_readNumber_0 : ∀ x ∈ S_X7_advance, x ∈ S_X2_readNumber_0 := by decide
theorem fs_X2_readNumber_0_69__X2_readNumber_0 : ∀ x ∈ S_X2_readNumber_0_69, x ∈ S_X2_readNumber_0 := by decide
theorem fs_X2_fail__X2_readNumber_0 : ∀ x ∈ S_X2_fail, x ∈ S_X2_readNumber_0 := by decide
theorem w_f_X2_readNumber_0 (h : HS) (p1 : Int32) (p2 : Int32) (p3 : Int32) : pk (f_X2_readNumber_0 h p1 p2 p3) (fun a => Fr S_X2_readNumber_0 h a) := by
  unfold f_X2_readNumber_0
  refine pk_if (fun _ => ?_) (fun _ => ?_)
  · refine pk_ob2 (w_f_X7_kind h) (fun r_2 h_2 k_1 => ?_)
    replace k_1 := Fr_trans (Fr_refl _ h) (Fr_mono fs_X7_kind__X2_readNumber_0 k_1)
    refine pk_if (fun _ => ?_) (fun _ => ?_)
    · refine pk_ob2 (w_f_X7_value h_2) (fun r_4 h_4 k_2 => ?_)
      replace k_2 := Fr_trans k_1 (Fr_mono fs_X7_value__X2_readNumber_0 k_2)
      refine pk_if (fun _ => ?_) (fun _ => ?_)
      · exact pk_mono (w_f_X2_readNumber_0_43 h_4) (fun _ k => Fr_trans k_2 (Fr_mono fs_X2_readNumber_0_43__X2_readNumber_0 k))
      · refine pk_ob2 (w_f_X7_value h_4) (fun r_6 h_6 k_3 => ?_)
        replace k_3 := Fr_trans k_2 (Fr_mono fs_X7_value__X2_readNumber_0 k_3)
        refine pk_if (fun _ => ?_) (fun _ => ?_)
        · refine pk_ob2 (w_f_X7_value h_6) (fun r_8 h_8 k_4 => ?_)
          replace k_4 := Fr_trans k_3 (Fr_mono fs_X7_value__X2_readNumber_0 k_4)
          refine pk_ob1 (w_f_X6_setClause_0 h_8 (eI h_6 9 1) p1 r_8) (fun h_9 k_5 => ?_)
          replace k_5 := Fr_trans k_4 (Fr_mono fs_X6_setClause_0__X2_readNumber_0 k_5)
          refine pk_ob1 (w_f_X7_advance h_9) (fun h_10 k_6 => ?_)
          replace k_6 := Fr_trans k_5 (Fr_mono fs_X7_advance__X2_readNumber_0 k_6)
          exact pk_mono (w_f_X2_readNumber_0_69 h_10) (fun _ k => Fr_trans k_6 (Fr_mono fs_X2_readNumber_0_69__X2_readNumber_0 k))
        · exact pk_mono (w_f_X2_readNumber_0_43 h_6) (fun _ k => Fr_trans k_3 (Fr_mono fs_X2_readNumber_0_43__X2_readNumber_0 k))
    · refine pk_ob1 (w_f_X2_fail h_2 1) (fun h_11 k_7 => ?_)
      replace k_7 := Fr_trans k_1 (Fr_mono fs_X2_fail__X2_readNumber_0 k_7)
      exact pk_mono (w_f_X2_readNumber_0_69 h_11) (fun _ k => Fr_trans k_7 (Fr_mono fs_X2_readNumber_0_69__X2_readNumber_0 k))
  · exact pk_some (Fr_refl _ h)
def S_X2_readDeed_0_90 : CL := []
theorem w_f_X2_readDeed_0_90 (h : HS) : pk (f_X2_readDeed_0_90 h) (fun a => Fr S_X2_readDeed_0_90 h a) := by
  unfold f_X2_readDeed_0_90
  exact pk_some (Fr_refl _ h)
def S_X2_readDeed_0 : CL := [(0, 4, 4), (0, 5, 0), (0, 5, 1), (1, 9, 0)]
theorem fs_X2_readNumber_0__X2_readDeed_0 : ∀ x ∈ S_X2_readNumber_0, x ∈ S_X2_readDeed_0 := by decide
theorem fs_X2_expect__X2_readDeed_0 : ∀ x ∈ S_X2_expect, x ∈ S_X2_readDeed_0 := by decide
theorem fs_X2_readDeed_0_90__X2_readDeed_0 : ∀ x ∈ S_X2_readDeed_0_90, x ∈ S_X2_readDeed_0 := by decide
theorem w_f_X2_readDeed_0 (h : HS) (p1 : Int32) : pk (f_X2_readDeed_0 h p1) (fun a => Fr S_X2_readDeed_0 h a) := by
  unfold f_X2_readDeed_0
  refine pk_if (fun _ => ?_) (fun _ => ?_)
  · refine pk_ob1 (w_f_X2_readNumber_0 h 1 1 99) (fun h_11 k_1 => ?_)
    replace k_1 := Fr_trans (Fr_refl _ h) (Fr_mono fs_X2_readNumber_0__X2_readDeed_0 k_1)
    exact pk_some k_1
  · refine pk_ob1 (w_f_X2_readNumber_0 h 1 0 9) (fun h_2 k_2 => ?_)
    replace k_2 := Fr_trans (Fr_refl _ h) (Fr_mono fs_X2_readNumber_0__X2_readDeed_0 k_2)
    refine pk_if (fun _ => ?_) (fun _ => ?_)
    · refine pk_ob1 (w_f_X2_expect h_2 24) (fun h_7 k_3 => ?_)
      replace k_3 := Fr_trans k_2 (Fr_mono fs_X2_expect__X2_readDeed_0 k_3)
      refine pk_ob1 (w_f_X2_readNumber_0 h_7 2 0 5) (fun h_8 k_4 => ?_)
      replace k_4 := Fr_trans k_3 (Fr_mono fs_X2_readNumber_0__X2_readDeed_0 k_4)
      refine pk_ob1 (w_f_X2_expect h_8 33) (fun h_9 k_5 => ?_)
      replace k_5 := Fr_trans k_4 (Fr_mono fs_X2_expect__X2_readDeed_0 k_5)
      refine pk_ob1 (w_f_X2_readNumber_0 h_9 3 0 2) (fun h_10 k_6 => ?_)
      replace k_6 := Fr_trans k_5 (Fr_mono fs_X2_readNumber_0__X2_readDeed_0 k_6)
      exact pk_mono (w_f_X2_readDeed_0_90 h_10) (fun _ k => Fr_trans k_6 (Fr_mono fs_X2_readDeed_0_90__X2_readDeed_0 k))
    · refine pk_if (fun _ => ?_) (fun _ => ?_)
      · refine pk_ob1 (w_f_X2_expect h_2 25) (fun h_5 k_7 => ?_)
        replace k_7 := Fr_trans k_2 (Fr_mono fs_X2_expect__X2_readDeed_0 k_7)
        refine pk_ob1 (w_f_X2_readNumber_0 h_5 2 0 3) (fun h_6 k_8 => ?_)
        replace k_8 := Fr_trans k_7 (Fr_mono fs_X2_readNumber_0__X2_readDeed_0 k_8)
        exact pk_mono (w_f_X2_readDeed_0_90 h_6) (fun _ k => Fr_trans k_8 (Fr_mono fs_X2_readDeed_0_90__X2_readDeed_0 k))
      · exact pk_mono (w_f_X2_readDeed_0_90 h_2) (fun _ k => Fr_trans k_2 (Fr_mono fs_X2_readDeed_0_90__X2_readDeed_0 k))
def S_read_0 : CL := [(0, 4, 4), (0, 5, 0), (0, 5, 1), (0, 9, 5), (1, 9, 2)]
theorem w_f_X2_readLevel_0_105 (kR_X2_readLevel : HS → Int32 → Int32 → Option HS) (hk_kR_X2_readLevel : ∀ (h : HS) (x0 : Int32) (x1 : Int32), pk (kR_X2_readLevel h x0 x1) (fun a => Fr S_read_0 h a)) (kR_X2_readAsk : HS → Int32 → Option HS) (hk_kR_X2_readAsk : ∀ (h : HS) (x0 : Int32), pk (kR_X2_readAsk h x0) (fun a => Fr S_read_0 h a)) (kR_X2_readOne : HS → Int32 → Option HS) (hk_kR_X2_readOne : ∀ (h : HS) (x0 : Int32), pk (kR_X2_readOne h x0) (fun a => Fr S_read_0 h a)) (h : HS) : pk (f_X2_readLevel_0_105 kR_X2_readLevel kR_X2_readAsk kR_X2_readOne h) (fun a => Fr S_read_0 h a) := by
  unfold f_X2_readLevel_0_105
  exact pk_some (Fr_refl _ h)
theorem fs_X7_kind__read_0 : ∀ x ∈ S_X7_kind, x ∈ S_read_0 := by decide
theorem fs_X7_advance__read_0 : ∀ x ∈ S_X7_advance, x ∈ S_read_0 := by decide
theorem fs_X6_addStep_0__read_0 : ∀ x ∈ S_X6_addStep_0, x ∈ S_read_0 := by decide
theorem w_f_X2_readLevel_0_42 (kR_X2_readLevel : HS → Int32 → Int32 → Option HS) (hk_kR_X2_readLevel : ∀ (h : HS) (x0 : Int32) (x1 : Int32), pk (kR_X2_readLevel h x0 x1) (fun a => Fr S_read_0 h a)) (kR_X2_readAsk : HS → Int32 → Option HS) (hk_kR_X2_readAsk : ∀ (h : HS) (x0 : Int32), pk (kR_X2_readAsk h x0) (fun a => Fr S_read_0 h a)) (kR_X2_readOne : HS → Int32 → Option HS) (hk_kR_X2_readOne : ∀ (h : HS) (x0 : Int32), pk (kR_X2_readOne h x0) (fun a => Fr S_read_0 h a)) : ∀ (n : Nat) (h : HS) (x3 : Int32) (x4 : Int32) (x5 : Int32), pk (f_X2_readLevel_0_42 kR_X2_readLevel kR_X2_readAsk kR_X2_readOne n h x3 x4 x5) (fun a => Fr S_read_0 h a) := by
  intro n
  induction n with
  | zero => intro h x3 x4 x5; exact pk_none
  | succ n ih =>
    intro h x3 x4 x5
    rw [f_X2_readLevel_0_42_s]
    refine pk_if (fun _ => ?_) (fun _ => ?_)
    · exact pk_mono (w_f_X2_readLevel_0_105 kR_X2_readLevel hk_kR_X2_readLevel kR_X2_readAsk hk_kR_X2_readAsk kR_X2_readOne hk_kR_X2_readOne h) (fun _ k => Fr_trans (Fr_refl _ h) k)
    · refine pk_if (fun _ => ?_) (fun _ => ?_)
      · refine pk_ob2 (w_f_X7_kind h) (fun r_8 h_8 k_1 => ?_)
        replace k_1 := Fr_trans (Fr_refl _ h) (Fr_mono fs_X7_kind__read_0 k_1)
        refine pk_obf (fun r_9 => ?_)
        refine pk_if (fun _ => ?_) (fun _ => ?_)
        · refine pk_ob2 (w_f_X7_kind h_8) (fun r_11 h_11 k_2 => ?_)
          replace k_2 := Fr_trans k_1 (Fr_mono fs_X7_kind__read_0 k_2)
          refine pk_ob1 (w_f_X7_advance h_11) (fun h_12 k_3 => ?_)
          replace k_3 := Fr_trans k_2 (Fr_mono fs_X7_advance__read_0 k_3)
          refine pk_ob1 (hk_kR_X2_readLevel h_12 (x3 + 1) x4) (fun h_13 k_4 => ?_)
          replace k_4 := Fr_trans k_3 k_4
          refine pk_ob1 (w_f_X6_addStep_0 h_13 (20000 + r_11)) (fun h_14 k_5 => ?_)
          replace k_5 := Fr_trans k_4 (Fr_mono fs_X6_addStep_0__read_0 k_5)
          exact pk_mono (ih h_14 x3 x4 (x5 + 1)) (fun _ k => Fr_trans k_5 k)
        · exact pk_mono (w_f_X2_readLevel_0_105 kR_X2_readLevel hk_kR_X2_readLevel kR_X2_readAsk hk_kR_X2_readAsk kR_X2_readOne hk_kR_X2_readOne h_8) (fun _ k => Fr_trans k_1 k)
      · exact pk_mono (w_f_X2_readLevel_0_105 kR_X2_readLevel hk_kR_X2_readLevel kR_X2_readAsk hk_kR_X2_readAsk kR_X2_readOne hk_kR_X2_readOne h) (fun _ k => Fr_trans (Fr_refl _ h) k)
theorem w_f_X2_readLevel_0_b (kR_X2_readLevel : HS → Int32 → Int32 → Option HS) (hk_kR_X2_readLevel : ∀ (h : HS) (x0 : Int32) (x1 : Int32), pk (kR_X2_readLevel h x0 x1) (fun a => Fr S_read_0 h a)) (kR_X2_readAsk : HS → Int32 → Option HS) (hk_kR_X2_readAsk : ∀ (h : HS) (x0 : Int32), pk (kR_X2_readAsk h x0) (fun a => Fr S_read_0 h a)) (kR_X2_readOne : HS → Int32 → Option HS) (hk_kR_X2_readOne : ∀ (h : HS) (x0 : Int32), pk (kR_X2_readOne h x0) (fun a => Fr S_read_0 h a)) (h : HS) (p1 : Int32) (p2 : Int32) : pk (f_X2_readLevel_0_b kR_X2_readLevel kR_X2_readAsk kR_X2_readOne h p1 p2) (fun a => Fr S_read_0 h a) := by
  unfold f_X2_readLevel_0_b
  refine pk_if (fun _ => ?_) (fun _ => ?_)
  · refine pk_ob1 (hk_kR_X2_readAsk h p2) (fun h_5 k_1 => ?_)
    replace k_1 := Fr_trans (Fr_refl _ h) k_1
    exact pk_some k_1
  · refine pk_if (fun _ => ?_) (fun _ => ?_)
    · refine pk_ob1 (hk_kR_X2_readOne h p2) (fun h_4 k_2 => ?_)
      replace k_2 := Fr_trans (Fr_refl _ h) k_2
      exact pk_some k_2
    · refine pk_ob1 (hk_kR_X2_readLevel h (p1 + 1) p2) (fun h_3 k_3 => ?_)
      replace k_3 := Fr_trans (Fr_refl _ h) k_3
      exact pk_mono (w_f_X2_readLevel_0_42 kR_X2_readLevel hk_kR_X2_readLevel kR_X2_readAsk hk_kR_X2_readAsk kR_X2_readOne hk_kR_X2_readOne 8589934592 h_3 p1 p2 0) (fun _ k => Fr_trans k_3 k)
theorem w_f_X2_readAsk_0_97 (kR_X2_readLevel : HS → Int32 → Int32 → Option HS) (hk_kR_X2_readLevel : ∀ (h : HS) (x0 : Int32) (x1 : Int32), pk (kR_X2_readLevel h x0 x1) (fun a => Fr S_read_0 h a)) (kR_X2_readAsk : HS → Int32 → Option HS) (hk_kR_X2_readAsk : ∀ (h : HS) (x0 : Int32), pk (kR_X2_readAsk h x0) (fun a => Fr S_read_0 h a)) (kR_X2_readOne : HS → Int32 → Option HS) (hk_kR_X2_readOne : ∀ (h : HS) (x0 : Int32), pk (kR_X2_readOne h x0) (fun a => Fr S_read_0 h a)) (h : HS) : pk (f_X2_readAsk_0_97 kR_X2_readLevel kR_X2_readAsk kR_X2_readOne h) (fun a => Fr S_read_0 h a) := by
  unfold f_X2_readAsk_0_97
  exact pk_some (Fr_refl _ h)
theorem w_f_X2_readAsk_0_68 (kR_X2_readLevel : HS → Int32 → Int32 → Option HS) (hk_kR_X2_readLevel : ∀ (h : HS) (x0 : Int32) (x1 : Int32), pk (kR_X2_readLevel h x0 x1) (fun a => Fr S_read_0 h a)) (kR_X2_readAsk : HS → Int32 → Option HS) (hk_kR_X2_readAsk : ∀ (h : HS) (x0 : Int32), pk (kR_X2_readAsk h x0) (fun a => Fr S_read_0 h a)) (kR_X2_readOne : HS → Int32 → Option HS) (hk_kR_X2_readOne : ∀ (h : HS) (x0 : Int32), pk (kR_X2_readOne h x0) (fun a => Fr S_read_0 h a)) (h : HS) (x3 : Int32) (x4 : Int32) : pk (f_X2_readAsk_0_68 kR_X2_readLevel kR_X2_readAsk kR_X2_readOne h x3 x4) (fun a => Fr S_read_0 h a) := by
  unfold f_X2_readAsk_0_68
  refine pk_if (fun _ => ?_) (fun _ => ?_)
  · refine pk_ob1 (w_f_X7_advance h) (fun h_13 k_1 => ?_)
    replace k_1 := Fr_trans (Fr_refl _ h) (Fr_mono fs_X7_advance__read_0 k_1)
    refine pk_ob1 (hk_kR_X2_readLevel h_13 3 x3) (fun h_14 k_2 => ?_)
    replace k_2 := Fr_trans k_1 k_2
    refine pk_ob1 (w_f_X6_addStep_0 h_14 (20000 + x4)) (fun h_15 k_3 => ?_)
    replace k_3 := Fr_trans k_2 (Fr_mono fs_X6_addStep_0__read_0 k_3)
    exact pk_mono (w_f_X2_readAsk_0_97 kR_X2_readLevel hk_kR_X2_readLevel kR_X2_readAsk hk_kR_X2_readAsk kR_X2_readOne hk_kR_X2_readOne h_15) (fun _ k => Fr_trans k_3 k)
  · exact pk_mono (w_f_X2_readAsk_0_97 kR_X2_readLevel hk_kR_X2_readLevel kR_X2_readAsk hk_kR_X2_readAsk kR_X2_readOne hk_kR_X2_readOne h) (fun _ k => Fr_trans (Fr_refl _ h) k)
theorem fs_X2_fail__read_0 : ∀ x ∈ S_X2_fail, x ∈ S_read_0 := by decide
theorem w_f_X2_readAsk_0_62 (kR_X2_readLevel : HS → Int32 → Int32 → Option HS) (hk_kR_X2_readLevel : ∀ (h : HS) (x0 : Int32) (x1 : Int32), pk (kR_X2_readLevel h x0 x1) (fun a => Fr S_read_0 h a)) (kR_X2_readAsk : HS → Int32 → Option HS) (hk_kR_X2_readAsk : ∀ (h : HS) (x0 : Int32), pk (kR_X2_readAsk h x0) (fun a => Fr S_read_0 h a)) (kR_X2_readOne : HS → Int32 → Option HS) (hk_kR_X2_readOne : ∀ (h : HS) (x0 : Int32), pk (kR_X2_readOne h x0) (fun a => Fr S_read_0 h a)) (h : HS) (x3 : Int32) (x4 : Int32) : pk (f_X2_readAsk_0_62 kR_X2_readLevel kR_X2_readAsk kR_X2_readOne h x3 x4) (fun a => Fr S_read_0 h a) := by
  unfold f_X2_readAsk_0_62
  refine pk_ob1 (w_f_X2_fail h 1) (fun h_11 k_1 => ?_)
  replace k_1 := Fr_trans (Fr_refl _ h) (Fr_mono fs_X2_fail__read_0 k_1)
  exact pk_mono (w_f_X2_readAsk_0_68 kR_X2_readLevel hk_kR_X2_readLevel kR_X2_readAsk hk_kR_X2_readAsk kR_X2_readOne hk_kR_X2_readOne h_11 x3 x4) (fun _ k => Fr_trans k_1 k)
theorem w_f_X2_readAsk_0_34 (kR_X2_readLevel : HS → Int32 → Int32 → Option HS) (hk_kR_X2_readLevel : ∀ (h : HS) (x0 : Int32) (x1 : Int32), pk (kR_X2_readLevel h x0 x1) (fun a => Fr S_read_0 h a)) (kR_X2_readAsk : HS → Int32 → Option HS) (hk_kR_X2_readAsk : ∀ (h : HS) (x0 : Int32), pk (kR_X2_readAsk h x0) (fun a => Fr S_read_0 h a)) (kR_X2_readOne : HS → Int32 → Option HS) (hk_kR_X2_readOne : ∀ (h : HS) (x0 : Int32), pk (kR_X2_readOne h x0) (fun a => Fr S_read_0 h a)) (h : HS) : pk (f_X2_readAsk_0_34 kR_X2_readLevel kR_X2_readAsk kR_X2_readOne h) (fun a => Fr S_read_0 h a) := by
  unfold f_X2_readAsk_0_34
  exact pk_some (Fr_refl _ h)
theorem fs_X2_opens__read_0 : ∀ x ∈ S_X2_opens, x ∈ S_read_0 := by decide
theorem w_f_X2_readAsk_0_b (kR_X2_readLevel : HS → Int32 → Int32 → Option HS) (hk_kR_X2_readLevel : ∀ (h : HS) (x0 : Int32) (x1 : Int32), pk (kR_X2_readLevel h x0 x1) (fun a => Fr S_read_0 h a)) (kR_X2_readAsk : HS → Int32 → Option HS) (hk_kR_X2_readAsk : ∀ (h : HS) (x0 : Int32), pk (kR_X2_readAsk h x0) (fun a => Fr S_read_0 h a)) (kR_X2_readOne : HS → Int32 → Option HS) (hk_kR_X2_readOne : ∀ (h : HS) (x0 : Int32), pk (kR_X2_readOne h x0) (fun a => Fr S_read_0 h a)) (h : HS) (p1 : Int32) : pk (f_X2_readAsk_0_b kR_X2_readLevel kR_X2_readAsk kR_X2_readOne h p1) (fun a => Fr S_read_0 h a) := by
  unfold f_X2_readAsk_0_b
  refine pk_ob2 (w_f_X7_kind h) (fun r_1 h_1 k_1 => ?_)
  replace k_1 := Fr_trans (Fr_refl _ h) (Fr_mono fs_X7_kind__read_0 k_1)
  refine pk_if (fun _ => ?_) (fun _ => ?_)
  · refine pk_ob2 (w_f_X2_opens h_1 p1) (fun r_7 h_7 k_2 => ?_)
    replace k_2 := Fr_trans k_1 (Fr_mono fs_X2_opens__read_0 k_2)
    refine pk_if (fun _ => ?_) (fun _ => ?_)
    · exact pk_mono (w_f_X2_readAsk_0_34 kR_X2_readLevel hk_kR_X2_readLevel kR_X2_readAsk hk_kR_X2_readAsk kR_X2_readOne hk_kR_X2_readOne h_7) (fun _ k => Fr_trans k_2 k)
    · refine pk_ob1 (hk_kR_X2_readAsk h_7 (p1 + 1)) (fun h_9 k_3 => ?_)
      replace k_3 := Fr_trans k_2 k_3
      refine pk_ob1 (w_f_X6_addStep_0 h_9 20028) (fun h_10 k_4 => ?_)
      replace k_4 := Fr_trans k_3 (Fr_mono fs_X6_addStep_0__read_0 k_4)
      exact pk_mono (w_f_X2_readAsk_0_34 kR_X2_readLevel hk_kR_X2_readLevel kR_X2_readAsk hk_kR_X2_readAsk kR_X2_readOne hk_kR_X2_readOne h_10) (fun _ k => Fr_trans k_4 k)
  · refine pk_ob1 (hk_kR_X2_readLevel h_1 3 p1) (fun h_3 k_5 => ?_)
    replace k_5 := Fr_trans k_1 k_5
    refine pk_ob2 (w_f_X7_kind h_3) (fun r_4 h_4 k_6 => ?_)
    replace k_6 := Fr_trans k_5 (Fr_mono fs_X7_kind__read_0 k_6)
    refine pk_if (fun _ => ?_) (fun _ => ?_)
    · exact pk_mono (w_f_X2_readAsk_0_62 kR_X2_readLevel hk_kR_X2_readLevel kR_X2_readAsk hk_kR_X2_readAsk kR_X2_readOne hk_kR_X2_readOne h_4 p1 r_4) (fun _ k => Fr_trans k_6 k)
    · refine pk_if (fun _ => ?_) (fun _ => ?_)
      · exact pk_mono (w_f_X2_readAsk_0_68 kR_X2_readLevel hk_kR_X2_readLevel kR_X2_readAsk hk_kR_X2_readAsk kR_X2_readOne hk_kR_X2_readOne h_4 p1 r_4) (fun _ k => Fr_trans k_6 k)
      · exact pk_mono (w_f_X2_readAsk_0_62 kR_X2_readLevel hk_kR_X2_readLevel kR_X2_readAsk hk_kR_X2_readAsk kR_X2_readOne hk_kR_X2_readOne h_4 p1 r_4) (fun _ k => Fr_trans k_6 k)
theorem w_f_X2_readOne_0_121 (kR_X2_readLevel : HS → Int32 → Int32 → Option HS) (hk_kR_X2_readLevel : ∀ (h : HS) (x0 : Int32) (x1 : Int32), pk (kR_X2_readLevel h x0 x1) (fun a => Fr S_read_0 h a)) (kR_X2_readAsk : HS → Int32 → Option HS) (hk_kR_X2_readAsk : ∀ (h : HS) (x0 : Int32), pk (kR_X2_readAsk h x0) (fun a => Fr S_read_0 h a)) (kR_X2_readOne : HS → Int32 → Option HS) (hk_kR_X2_readOne : ∀ (h : HS) (x0 : Int32), pk (kR_X2_readOne h x0) (fun a => Fr S_read_0 h a)) (h : HS) : pk (f_X2_readOne_0_121 kR_X2_readLevel kR_X2_readAsk kR_X2_readOne h) (fun a => Fr S_read_0 h a) := by
  unfold f_X2_readOne_0_121
  exact pk_some (Fr_refl _ h)
theorem fs_X2_expect__read_0 : ∀ x ∈ S_X2_expect, x ∈ S_read_0 := by decide
theorem w_f_X2_readOne_0_44 (kR_X2_readLevel : HS → Int32 → Int32 → Option HS) (hk_kR_X2_readLevel : ∀ (h : HS) (x0 : Int32) (x1 : Int32), pk (kR_X2_readLevel h x0 x1) (fun a => Fr S_read_0 h a)) (kR_X2_readAsk : HS → Int32 → Option HS) (hk_kR_X2_readAsk : ∀ (h : HS) (x0 : Int32), pk (kR_X2_readAsk h x0) (fun a => Fr S_read_0 h a)) (kR_X2_readOne : HS → Int32 → Option HS) (hk_kR_X2_readOne : ∀ (h : HS) (x0 : Int32), pk (kR_X2_readOne h x0) (fun a => Fr S_read_0 h a)) (h : HS) (x3 : Int32) (x4 : Int32) : pk (f_X2_readOne_0_44 kR_X2_readLevel kR_X2_readAsk kR_X2_readOne h x3 x4) (fun a => Fr S_read_0 h a) := by
  unfold f_X2_readOne_0_44
  refine pk_if (fun _ => ?_) (fun _ => ?_)
  · refine pk_ob2 (w_f_X2_opens h x3) (fun r_14 h_14 k_1 => ?_)
    replace k_1 := Fr_trans (Fr_refl _ h) (Fr_mono fs_X2_opens__read_0 k_1)
    refine pk_if (fun _ => ?_) (fun _ => ?_)
    · exact pk_mono (w_f_X2_readOne_0_121 kR_X2_readLevel hk_kR_X2_readLevel kR_X2_readAsk hk_kR_X2_readAsk kR_X2_readOne hk_kR_X2_readOne h_14) (fun _ k => Fr_trans k_1 k)
    · refine pk_ob1 (hk_kR_X2_readLevel h_14 3 (x3 + 1)) (fun h_16 k_2 => ?_)
      replace k_2 := Fr_trans k_1 k_2
      refine pk_ob1 (w_f_X2_expect h_16 14) (fun h_17 k_3 => ?_)
      replace k_3 := Fr_trans k_2 (Fr_mono fs_X2_expect__read_0 k_3)
      exact pk_mono (w_f_X2_readOne_0_121 kR_X2_readLevel hk_kR_X2_readLevel kR_X2_readAsk hk_kR_X2_readAsk kR_X2_readOne hk_kR_X2_readOne h_17) (fun _ k => Fr_trans k_3 k)
  · refine pk_if (fun _ => ?_) (fun _ => ?_)
    · refine pk_ob2 (w_f_X2_opens h x3) (fun r_10 h_10 k_4 => ?_)
      replace k_4 := Fr_trans (Fr_refl _ h) (Fr_mono fs_X2_opens__read_0 k_4)
      refine pk_if (fun _ => ?_) (fun _ => ?_)
      · exact pk_mono (w_f_X2_readOne_0_121 kR_X2_readLevel hk_kR_X2_readLevel kR_X2_readAsk hk_kR_X2_readAsk kR_X2_readOne hk_kR_X2_readOne h_10) (fun _ k => Fr_trans k_4 k)
      · refine pk_ob1 (hk_kR_X2_readOne h_10 (x3 + 1)) (fun h_12 k_5 => ?_)
        replace k_5 := Fr_trans k_4 k_5
        refine pk_ob1 (w_f_X6_addStep_0 h_12 20038) (fun h_13 k_6 => ?_)
        replace k_6 := Fr_trans k_5 (Fr_mono fs_X6_addStep_0__read_0 k_6)
        exact pk_mono (w_f_X2_readOne_0_121 kR_X2_readLevel hk_kR_X2_readLevel kR_X2_readAsk hk_kR_X2_readAsk kR_X2_readOne hk_kR_X2_readOne h_13) (fun _ k => Fr_trans k_6 k)
    · refine pk_ob1 (w_f_X2_fail h 1) (fun h_9 k_7 => ?_)
      replace k_7 := Fr_trans (Fr_refl _ h) (Fr_mono fs_X2_fail__read_0 k_7)
      exact pk_mono (w_f_X2_readOne_0_121 kR_X2_readLevel hk_kR_X2_readLevel kR_X2_readAsk hk_kR_X2_readAsk kR_X2_readOne hk_kR_X2_readOne h_9) (fun _ k => Fr_trans k_7 k)
theorem fs_X2_readValue_0__read_0 : ∀ x ∈ S_X2_readValue_0, x ∈ S_read_0 := by decide
theorem fs_X2_readName_0__read_0 : ∀ x ∈ S_X2_readName_0, x ∈ S_read_0 := by decide
theorem w_f_X2_readOne_0_b (kR_X2_readLevel : HS → Int32 → Int32 → Option HS) (hk_kR_X2_readLevel : ∀ (h : HS) (x0 : Int32) (x1 : Int32), pk (kR_X2_readLevel h x0 x1) (fun a => Fr S_read_0 h a)) (kR_X2_readAsk : HS → Int32 → Option HS) (hk_kR_X2_readAsk : ∀ (h : HS) (x0 : Int32), pk (kR_X2_readAsk h x0) (fun a => Fr S_read_0 h a)) (kR_X2_readOne : HS → Int32 → Option HS) (hk_kR_X2_readOne : ∀ (h : HS) (x0 : Int32), pk (kR_X2_readOne h x0) (fun a => Fr S_read_0 h a)) (h : HS) (p1 : Int32) : pk (f_X2_readOne_0_b kR_X2_readLevel kR_X2_readAsk kR_X2_readOne h p1) (fun a => Fr S_read_0 h a) := by
  unfold f_X2_readOne_0_b
  refine pk_ob2 (w_f_X7_kind h) (fun r_1 h_1 k_1 => ?_)
  replace k_1 := Fr_trans (Fr_refl _ h) (Fr_mono fs_X7_kind__read_0 k_1)
  refine pk_if (fun _ => ?_) (fun _ => ?_)
  · refine pk_ob1 (w_f_X2_readValue_0 h_1) (fun h_6 k_2 => ?_)
    replace k_2 := Fr_trans k_1 (Fr_mono fs_X2_readValue_0__read_0 k_2)
    exact pk_mono (w_f_X2_readOne_0_121 kR_X2_readLevel hk_kR_X2_readLevel kR_X2_readAsk hk_kR_X2_readAsk kR_X2_readOne hk_kR_X2_readOne h_6) (fun _ k => Fr_trans k_2 k)
  · refine pk_if (fun _ => ?_) (fun _ => ?_)
    · exact pk_mono (w_f_X2_readOne_0_44 kR_X2_readLevel hk_kR_X2_readLevel kR_X2_readAsk hk_kR_X2_readAsk kR_X2_readOne hk_kR_X2_readOne h_1 p1 r_1) (fun _ k => Fr_trans k_1 k)
    · refine pk_if (fun _ => ?_) (fun _ => ?_)
      · exact pk_mono (w_f_X2_readOne_0_44 kR_X2_readLevel hk_kR_X2_readLevel kR_X2_readAsk hk_kR_X2_readAsk kR_X2_readOne hk_kR_X2_readOne h_1 p1 r_1) (fun _ k => Fr_trans k_1 k)
      · refine pk_ob1 (w_f_X2_readName_0 h_1) (fun h_5 k_3 => ?_)
        replace k_3 := Fr_trans k_1 (Fr_mono fs_X2_readName_0__read_0 k_3)
        exact pk_mono (w_f_X2_readOne_0_121 kR_X2_readLevel hk_kR_X2_readLevel kR_X2_readAsk hk_kR_X2_readAsk kR_X2_readOne hk_kR_X2_readOne h_5) (fun _ k => Fr_trans k_3 k)
theorem w_G_read_0 : ∀ (n t : Nat) (h : HS) (p1 p2 : Int32), pk (G_read_0 n t h p1 p2) (fun a => Fr S_read_0 h a) := by
  intro n
  induction n with
  | zero => intro t h p1 p2; exact (by simp [G_read_0]; exact pk_none)
  | succ n ih =>
    intro t h p1 p2
    match t with
    | 0 => exact w_f_X2_readLevel_0_b (fun h p1 p2 => G_read_0 n 0 h p1 p2) (fun h p1 p2 => ih 0 h p1 p2) (fun h p1 => G_read_0 n 1 h p1 0) (fun h p1 => ih 1 h p1 0) (fun h p1 => G_read_0 n 2 h p1 0) (fun h p1 => ih 2 h p1 0) h p1 p2
    | 1 => exact w_f_X2_readAsk_0_b (fun h p1 p2 => G_read_0 n 0 h p1 p2) (fun h p1 p2 => ih 0 h p1 p2) (fun h p1 => G_read_0 n 1 h p1 0) (fun h p1 => ih 1 h p1 0) (fun h p1 => G_read_0 n 2 h p1 0) (fun h p1 => ih 2 h p1 0) h p1
    | t + 2 => exact w_f_X2_readOne_0_b (fun h p1 p2 => G_read_0 n 0 h p1 p2) (fun h p1 p2 => ih 0 h p1 p2) (fun h p1 => G_read_0 n 1 h p1 0) (fun h p1 => ih 1 h p1 0) (fun h p1 => G_read_0 n 2 h p1 0) (fun h p1 => ih 2 h p1 0) h p1
def S_X2_readClause_0_158 : CL := []
theorem w_f_X2_readClause_0_158 (h : HS) : pk (f_X2_readClause_0_158 h) (fun a => Fr S_X2_readClause_0_158 h a) := by
  unfold f_X2_readClause_0_158
  exact pk_some (Fr_refl _ h)
def S_X2_readClause_0_25 : CL := [(0, 5, 0), (0, 5, 1)]
theorem fs_X2_fail__X2_readClause_0_25 : ∀ x ∈ S_X2_fail, x ∈ S_X2_readClause_0_25 := by decide
theorem fs_X2_readClause_0_158__X2_readClause_0_25 : ∀ x ∈ S_X2_readClause_0_158, x ∈ S_X2_readClause_0_25 := by decide
theorem w_f_X2_readClause_0_25 (h : HS) : pk (f_X2_readClause_0_25 h) (fun a => Fr S_X2_readClause_0_25 h a) := by
  unfold f_X2_readClause_0_25
  refine pk_ob1 (w_f_X2_fail h 1) (fun h_15 k_1 => ?_)
  replace k_1 := Fr_trans (Fr_refl _ h) (Fr_mono fs_X2_fail__X2_readClause_0_25 k_1)
  exact pk_mono (w_f_X2_readClause_0_158 h_15) (fun _ k => Fr_trans k_1 (Fr_mono fs_X2_readClause_0_158__X2_readClause_0_25 k))
def S_X2_readClause_0_141 : CL := [(0, 4, 4), (0, 5, 0), (0, 5, 1), (0, 9, 1)]
theorem fm_X2_readClause_0_141_0_9_1 : (0, 9, 1) ∈ S_X2_readClause_0_141 := by decide
theorem fs_X2_expect__X2_readClause_0_141 : ∀ x ∈ S_X2_expect, x ∈ S_X2_readClause_0_141 := by decide
theorem fs_X2_readClause_0_158__X2_readClause_0_141 : ∀ x ∈ S_X2_readClause_0_158, x ∈ S_X2_readClause_0_141 := by decide
theorem w_f_X2_readClause_0_141 (h : HS) : pk (f_X2_readClause_0_141 h) (fun a => Fr S_X2_readClause_0_141 h a) := by
  unfold f_X2_readClause_0_141
  refine pk_ob1 (w_f_X2_expect h 15) (fun h_16 k_1 => ?_)
  replace k_1 := Fr_trans (Fr_refl _ h) (Fr_mono fs_X2_expect__X2_readClause_0_141 k_1)
  exact pk_mono (w_f_X2_readClause_0_158 (sI h_16 9 1 ((eI h_16 9 1) + 1))) (fun _ k => Fr_trans (Fr_sI fm_X2_readClause_0_141_0_9_1 k_1) (Fr_mono fs_X2_readClause_0_158__X2_readClause_0_141 k))
def S_X2_readClause_0_119 : CL := [(0, 4, 4), (0, 5, 0), (0, 5, 1), (0, 9, 1), (0, 9, 5), (1, 9, 2), (1, 9, 4)]
theorem fs_read_0__X2_readClause_0_119 : ∀ x ∈ S_read_0, x ∈ S_X2_readClause_0_119 := by decide
theorem fs_X6_closeLaw_0__X2_readClause_0_119 : ∀ x ∈ S_X6_closeLaw_0, x ∈ S_X2_readClause_0_119 := by decide
theorem fs_X2_readClause_0_141__X2_readClause_0_119 : ∀ x ∈ S_X2_readClause_0_141, x ∈ S_X2_readClause_0_119 := by decide
theorem w_f_X2_readClause_0_119 (h : HS) (y0 : Int32) : pk (f_X2_readClause_0_119 h y0) (fun a => Fr S_X2_readClause_0_119 h a) := by
  unfold f_X2_readClause_0_119
  refine pk_ob1 (w_G_read_0 200 0 h y0 0) (fun h_17 k_1 => ?_)
  replace k_1 := Fr_trans (Fr_refl _ h) (Fr_mono fs_read_0__X2_readClause_0_119 k_1)
  refine pk_ob1 (w_f_X6_closeLaw_0 h_17 (eI h_17 5 2)) (fun h_18 k_2 => ?_)
  replace k_2 := Fr_trans k_1 (Fr_mono fs_X6_closeLaw_0__X2_readClause_0_119 k_2)
  exact pk_mono (w_f_X2_readClause_0_141 h_18) (fun _ k => Fr_trans k_2 (Fr_mono fs_X2_readClause_0_141__X2_readClause_0_119 k))
def S_X2_readClause_0 : CL := [(0, 4, 4), (0, 5, 0), (0, 5, 1), (0, 5, 2), (0, 9, 1), (0, 9, 5), (1, 9, 0), (1, 9, 2), (1, 9, 3), (1, 9, 4)]
theorem fm_X2_readClause_0_0_5_2 : (0, 5, 2) ∈ S_X2_readClause_0 := by decide
theorem fs_X7_kind__X2_readClause_0 : ∀ x ∈ S_X7_kind, x ∈ S_X2_readClause_0 := by decide
theorem fs_X2_readClause_0_25__X2_readClause_0 : ∀ x ∈ S_X2_readClause_0_25, x ∈ S_X2_readClause_0 := by decide
theorem fs_X6_hasLaw_0__X2_readClause_0 : ∀ x ∈ S_X6_hasLaw_0, x ∈ S_X2_readClause_0 := by decide
theorem fs_X6_setClause_0__X2_readClause_0 : ∀ x ∈ S_X6_setClause_0, x ∈ S_X2_readClause_0 := by decide
theorem fs_X7_advance__X2_readClause_0 : ∀ x ∈ S_X7_advance, x ∈ S_X2_readClause_0 := by decide
theorem fs_X2_readDeed_0__X2_readClause_0 : ∀ x ∈ S_X2_readDeed_0, x ∈ S_X2_readClause_0 := by decide
theorem fs_X2_readClause_0_141__X2_readClause_0 : ∀ x ∈ S_X2_readClause_0_141, x ∈ S_X2_readClause_0 := by decide
theorem fs_X6_beginLaw_0__X2_readClause_0 : ∀ x ∈ S_X6_beginLaw_0, x ∈ S_X2_readClause_0 := by decide
theorem fs_X2_readClause_0_119__X2_readClause_0 : ∀ x ∈ S_X2_readClause_0_119, x ∈ S_X2_readClause_0 := by decide
theorem fs_X2_fail__X2_readClause_0 : ∀ x ∈ S_X2_fail, x ∈ S_X2_readClause_0 := by decide
theorem fs_X2_readClause_0_158__X2_readClause_0 : ∀ x ∈ S_X2_readClause_0_158, x ∈ S_X2_readClause_0 := by decide
theorem w_f_X2_readClause_0 (h : HS) : pk (f_X2_readClause_0 h) (fun a => Fr S_X2_readClause_0 h a) := by
  unfold f_X2_readClause_0
  refine pk_ob2 (w_f_X7_kind h) (fun r_1 h_1 k_1 => ?_)
  replace k_1 := Fr_trans (Fr_refl _ h) (Fr_mono fs_X7_kind__X2_readClause_0 k_1)
  refine pk_if (fun _ => ?_) (fun _ => ?_)
  · exact pk_mono (w_f_X2_readClause_0_25 (sI h_1 5 2 (r_1 - 16))) (fun _ k => Fr_trans (Fr_sI fm_X2_readClause_0_0_5_2 k_1) (Fr_mono fs_X2_readClause_0_25__X2_readClause_0 k))
  · refine pk_if (fun _ => ?_) (fun _ => ?_)
    · refine pk_ob2 (w_f_X6_hasLaw_0 (sI h_1 5 2 (r_1 - 16)) (r_1 - 16)) (fun r_4 h_4 k_2 => ?_)
      replace k_2 := Fr_trans (Fr_sI fm_X2_readClause_0_0_5_2 k_1) (Fr_mono fs_X6_hasLaw_0__X2_readClause_0 k_2)
      refine pk_if (fun _ => ?_) (fun _ => ?_)
      · refine pk_if (fun _ => ?_) (fun _ => ?_)
        · refine pk_ob1 (w_f_X6_setClause_0 h_4 (eI h_4 9 1) 0 r_1) (fun h_7 k_3 => ?_)
          replace k_3 := Fr_trans k_2 (Fr_mono fs_X6_setClause_0__X2_readClause_0 k_3)
          refine pk_ob1 (w_f_X7_advance h_7) (fun h_8 k_4 => ?_)
          replace k_4 := Fr_trans k_3 (Fr_mono fs_X7_advance__X2_readClause_0 k_4)
          refine pk_if (fun _ => ?_) (fun _ => ?_)
          · refine pk_ob1 (w_f_X2_readDeed_0 h_8 r_1) (fun h_10 k_5 => ?_)
            replace k_5 := Fr_trans k_4 (Fr_mono fs_X2_readDeed_0__X2_readClause_0 k_5)
            exact pk_mono (w_f_X2_readClause_0_141 h_10) (fun _ k => Fr_trans k_5 (Fr_mono fs_X2_readClause_0_141__X2_readClause_0 k))
          · refine pk_ob1 (w_f_X6_beginLaw_0 h_8 (eI h_8 5 2)) (fun h_11 k_6 => ?_)
            replace k_6 := Fr_trans k_4 (Fr_mono fs_X6_beginLaw_0__X2_readClause_0 k_6)
            refine pk_if (fun _ => ?_) (fun _ => ?_)
            · exact pk_mono (w_f_X2_readClause_0_119 h_11 0) (fun _ k => Fr_trans k_6 (Fr_mono fs_X2_readClause_0_119__X2_readClause_0 k))
            · exact pk_mono (w_f_X2_readClause_0_119 h_11 3) (fun _ k => Fr_trans k_6 (Fr_mono fs_X2_readClause_0_119__X2_readClause_0 k))
        · refine pk_ob1 (w_f_X2_fail h_4 6) (fun h_13 k_7 => ?_)
          replace k_7 := Fr_trans k_2 (Fr_mono fs_X2_fail__X2_readClause_0 k_7)
          exact pk_mono (w_f_X2_readClause_0_158 h_13) (fun _ k => Fr_trans k_7 (Fr_mono fs_X2_readClause_0_158__X2_readClause_0 k))
      · refine pk_ob1 (w_f_X2_fail h_4 4) (fun h_14 k_8 => ?_)
        replace k_8 := Fr_trans k_2 (Fr_mono fs_X2_fail__X2_readClause_0 k_8)
        exact pk_mono (w_f_X2_readClause_0_158 h_14) (fun _ k => Fr_trans k_8 (Fr_mono fs_X2_readClause_0_158__X2_readClause_0 k))
    · exact pk_mono (w_f_X2_readClause_0_25 (sI h_1 5 2 (r_1 - 16))) (fun _ k => Fr_trans (Fr_sI fm_X2_readClause_0_0_5_2 k_1) (Fr_mono fs_X2_readClause_0_25__X2_readClause_0 k))
def S_X2_parse_0_48 : CL := []
theorem w_f_X2_parse_0_48 (h : HS) : pk (f_X2_parse_0_48 h) (fun a => Fr S_X2_parse_0_48 h a) := by
  unfold f_X2_parse_0_48
  exact pk_some (Fr_refl _ h)
def S_X2_parse_0_16 : CL := [(0, 4, 4), (0, 5, 0), (0, 5, 1), (0, 5, 2), (0, 9, 1), (0, 9, 5), (1, 9, 0), (1, 9, 2), (1, 9, 3), (1, 9, 4)]
theorem fs_X2_parse_0_48__X2_parse_0_16 : ∀ x ∈ S_X2_parse_0_48, x ∈ S_X2_parse_0_16 := by decide
theorem fs_X7_kind__X2_parse_0_16 : ∀ x ∈ S_X7_kind, x ∈ S_X2_parse_0_16 := by decide
theorem fs_X2_readClause_0__X2_parse_0_16 : ∀ x ∈ S_X2_readClause_0, x ∈ S_X2_parse_0_16 := by decide
theorem w_f_X2_parse_0_16  : ∀ (n : Nat) (h : HS) (x3 : Int32), pk (f_X2_parse_0_16  n h x3) (fun a => Fr S_X2_parse_0_16 h a) := by
  intro n
  induction n with
  | zero => intro h x3; exact pk_none
  | succ n ih =>
    intro h x3
    rw [f_X2_parse_0_16_s]
    refine pk_if (fun _ => ?_) (fun _ => ?_)
    · exact pk_mono (w_f_X2_parse_0_48 h) (fun _ k => Fr_trans (Fr_refl _ h) (Fr_mono fs_X2_parse_0_48__X2_parse_0_16 k))
    · refine pk_if (fun _ => ?_) (fun _ => ?_)
      · refine pk_ob2 (w_f_X7_kind h) (fun r_4 h_4 k_1 => ?_)
        replace k_1 := Fr_trans (Fr_refl _ h) (Fr_mono fs_X7_kind__X2_parse_0_16 k_1)
        refine pk_if (fun _ => ?_) (fun _ => ?_)
        · exact pk_mono (w_f_X2_parse_0_48 h_4) (fun _ k => Fr_trans k_1 (Fr_mono fs_X2_parse_0_48__X2_parse_0_16 k))
        · refine pk_ob1 (w_f_X2_readClause_0 h_4) (fun h_6 k_2 => ?_)
          replace k_2 := Fr_trans k_1 (Fr_mono fs_X2_readClause_0__X2_parse_0_16 k_2)
          exact pk_mono (ih h_6 (x3 + 1)) (fun _ k => Fr_trans k_2 k)
      · exact pk_mono (w_f_X2_parse_0_48 h) (fun _ k => Fr_trans (Fr_refl _ h) (Fr_mono fs_X2_parse_0_48__X2_parse_0_16 k))
def S_X2_parse_0 : CL := [(0, 4, 4), (0, 5, 0), (0, 5, 1), (0, 5, 2), (0, 9, 1), (0, 9, 5), (1, 9, 0), (1, 9, 2), (1, 9, 3), (1, 9, 4)]
theorem fm_X2_parse_0_0_5_1 : (0, 5, 1) ∈ S_X2_parse_0 := by decide
theorem fm_X2_parse_0_0_5_0 : (0, 5, 0) ∈ S_X2_parse_0 := by decide
theorem fs_X6_clear_0__X2_parse_0 : ∀ x ∈ S_X6_clear_0, x ∈ S_X2_parse_0 := by decide
theorem fs_X2_parse_0_16__X2_parse_0 : ∀ x ∈ S_X2_parse_0_16, x ∈ S_X2_parse_0 := by decide
theorem w_f_X2_parse_0 (h : HS) : pk (f_X2_parse_0 h) (fun a => Fr S_X2_parse_0 h a) := by
  unfold f_X2_parse_0
  refine pk_ob1 (w_f_X6_clear_0 (sI (sI h 5 0 0) 5 1 (-1))) (fun h_1 k_1 => ?_)
  replace k_1 := Fr_trans (Fr_sI fm_X2_parse_0_0_5_1 (Fr_sI fm_X2_parse_0_0_5_0 (Fr_refl _ h))) (Fr_mono fs_X6_clear_0__X2_parse_0 k_1)
  exact pk_mono (w_f_X2_parse_0_16 8589934592 h_1 0) (fun _ k => Fr_trans k_1 (Fr_mono fs_X2_parse_0_16__X2_parse_0 k))
def S_X2_readValue_1 : CL := [(0, 4, 4), (0, 5, 0), (0, 5, 1), (0, 10, 5), (1, 10, 2)]
theorem fs_X7_value__X2_readValue_1 : ∀ x ∈ S_X7_value, x ∈ S_X2_readValue_1 := by decide
theorem fs_X6_addStep_1__X2_readValue_1 : ∀ x ∈ S_X6_addStep_1, x ∈ S_X2_readValue_1 := by decide
theorem fs_X7_advance__X2_readValue_1 : ∀ x ∈ S_X7_advance, x ∈ S_X2_readValue_1 := by decide
theorem fs_X2_fail__X2_readValue_1 : ∀ x ∈ S_X2_fail, x ∈ S_X2_readValue_1 := by decide
theorem w_f_X2_readValue_1 (h : HS) : pk (f_X2_readValue_1 h) (fun a => Fr S_X2_readValue_1 h a) := by
  unfold f_X2_readValue_1
  refine pk_ob2 (w_f_X7_value h) (fun r_1 h_1 k_1 => ?_)
  replace k_1 := Fr_trans (Fr_refl _ h) (Fr_mono fs_X7_value__X2_readValue_1 k_1)
  refine pk_if (fun _ => ?_) (fun _ => ?_)
  · refine pk_ob2 (w_f_X7_value h_1) (fun r_3 h_3 k_2 => ?_)
    replace k_2 := Fr_trans k_1 (Fr_mono fs_X7_value__X2_readValue_1 k_2)
    refine pk_ob1 (w_f_X6_addStep_1 h_3 r_3) (fun h_4 k_3 => ?_)
    replace k_3 := Fr_trans k_2 (Fr_mono fs_X6_addStep_1__X2_readValue_1 k_3)
    refine pk_ob1 (w_f_X7_advance h_4) (fun h_5 k_4 => ?_)
    replace k_4 := Fr_trans k_3 (Fr_mono fs_X7_advance__X2_readValue_1 k_4)
    exact pk_some k_4
  · refine pk_ob1 (w_f_X2_fail h_1 2) (fun h_6 k_5 => ?_)
    replace k_5 := Fr_trans k_1 (Fr_mono fs_X2_fail__X2_readValue_1 k_5)
    exact pk_some k_5
def S_X2_readName_1_31 : CL := [(0, 4, 4), (0, 10, 5), (1, 10, 2)]
theorem fs_X7_kind__X2_readName_1_31 : ∀ x ∈ S_X7_kind, x ∈ S_X2_readName_1_31 := by decide
theorem fs_X6_addStep_1__X2_readName_1_31 : ∀ x ∈ S_X6_addStep_1, x ∈ S_X2_readName_1_31 := by decide
theorem fs_X7_advance__X2_readName_1_31 : ∀ x ∈ S_X7_advance, x ∈ S_X2_readName_1_31 := by decide
theorem w_f_X2_readName_1_31 (h : HS) : pk (f_X2_readName_1_31 h) (fun a => Fr S_X2_readName_1_31 h a) := by
  unfold f_X2_readName_1_31
  refine pk_ob2 (w_f_X7_kind h) (fun r_6 h_6 k_1 => ?_)
  replace k_1 := Fr_trans (Fr_refl _ h) (Fr_mono fs_X7_kind__X2_readName_1_31 k_1)
  refine pk_ob1 (w_f_X6_addStep_1 h_6 ((10000 + r_6) - 29)) (fun h_7 k_2 => ?_)
  replace k_2 := Fr_trans k_1 (Fr_mono fs_X6_addStep_1__X2_readName_1_31 k_2)
  refine pk_ob1 (w_f_X7_advance h_7) (fun h_8 k_3 => ?_)
  replace k_3 := Fr_trans k_2 (Fr_mono fs_X7_advance__X2_readName_1_31 k_3)
  exact pk_some k_3
def S_X2_readName_1 : CL := [(0, 4, 4), (0, 5, 0), (0, 5, 1), (0, 10, 5), (1, 10, 2)]
theorem fs_X7_kind__X2_readName_1 : ∀ x ∈ S_X7_kind, x ∈ S_X2_readName_1 := by decide
theorem fs_X2_readName_1_31__X2_readName_1 : ∀ x ∈ S_X2_readName_1_31, x ∈ S_X2_readName_1 := by decide
theorem fs_X2_fail__X2_readName_1 : ∀ x ∈ S_X2_fail, x ∈ S_X2_readName_1 := by decide
theorem w_f_X2_readName_1 (h : HS) : pk (f_X2_readName_1 h) (fun a => Fr S_X2_readName_1 h a) := by
  unfold f_X2_readName_1
  refine pk_ob2 (w_f_X7_kind h) (fun r_1 h_1 k_1 => ?_)
  replace k_1 := Fr_trans (Fr_refl _ h) (Fr_mono fs_X7_kind__X2_readName_1 k_1)
  refine pk_if (fun _ => ?_) (fun _ => ?_)
  · exact pk_mono (w_f_X2_readName_1_31 h_1) (fun _ k => Fr_trans k_1 (Fr_mono fs_X2_readName_1_31__X2_readName_1 k))
  · refine pk_if (fun _ => ?_) (fun _ => ?_)
    · exact pk_mono (w_f_X2_readName_1_31 h_1) (fun _ k => Fr_trans k_1 (Fr_mono fs_X2_readName_1_31__X2_readName_1 k))
    · refine pk_if (fun _ => ?_) (fun _ => ?_)
      · exact pk_mono (w_f_X2_readName_1_31 h_1) (fun _ k => Fr_trans k_1 (Fr_mono fs_X2_readName_1_31__X2_readName_1 k))
      · refine pk_ob1 (w_f_X2_fail h_1 5) (fun h_5 k_2 => ?_)
        replace k_2 := Fr_trans k_1 (Fr_mono fs_X2_fail__X2_readName_1 k_2)
        exact pk_some k_2
def S_X2_readNumber_1_69 : CL := []
theorem w_f_X2_readNumber_1_69 (h : HS) : pk (f_X2_readNumber_1_69 h) (fun a => Fr S_X2_readNumber_1_69 h a) := by
  unfold f_X2_readNumber_1_69
  exact pk_some (Fr_refl _ h)
def S_X2_readNumber_1_43 : CL := [(0, 5, 0), (0, 5, 1)]
theorem fs_X2_fail__X2_readNumber_1_43 : ∀ x ∈ S_X2_fail, x ∈ S_X2_readNumber_1_43 := by decide
theorem fs_X2_readNumber_1_69__X2_readNumber_1_43 : ∀ x ∈ S_X2_readNumber_1_69, x ∈ S_X2_readNumber_1_43 := by decide
theorem w_f_X2_readNumber_1_43 (h : HS) : pk (f_X2_readNumber_1_43 h) (fun a => Fr S_X2_readNumber_1_43 h a) := by
  unfold f_X2_readNumber_1_43
  refine pk_ob1 (w_f_X2_fail h 2) (fun h_12 k_1 => ?_)
  replace k_1 := Fr_trans (Fr_refl _ h) (Fr_mono fs_X2_fail__X2_readNumber_1_43 k_1)
  exact pk_mono (w_f_X2_readNumber_1_69 h_12) (fun _ k => Fr_trans k_1 (Fr_mono fs_X2_readNumber_1_69__X2_readNumber_1_43 k))
def S_X2_readNumber_1 : CL := [(0, 4, 4), (0, 5, 0), (0, 5, 1), (1, 10, 0)]
theorem fs_X7_kind__X2_readNumber_1 : ∀ x ∈ S_X7_kind, x ∈ S_X2_readNumber_1 := by decide
theorem fs_X7_value__X2_readNumber_1 : ∀ x ∈ S_X7_value, x ∈ S_X2_readNumber_1 := by decide
theorem fs_X2_readNumber_1_43__X2_readNumber_1 : ∀ x ∈ S_X2_readNumber_1_43, x ∈ S_X2_readNumber_1 := by decide
theorem fs_X6_setClause_1__X2_readNumber_1 : ∀ x ∈ S_X6_setClause_1, x ∈ S_X2_readNumber_1 := by decide
theorem fs_X7_advance__X2_readNumber_1 : ∀ x ∈ S_X7_advance, x ∈ S_X2_readNumber_1 := by decide
theorem fs_X2_readNumber_1_69__X2_readNumber_1 : ∀ x ∈ S_X2_readNumber_1_69, x ∈ S_X2_readNumber_1 := by decide
theorem fs_X2_fail__X2_readNumber_1 : ∀ x ∈ S_X2_fail, x ∈ S_X2_readNumber_1 := by decide
theorem w_f_X2_readNumber_1 (h : HS) (p1 : Int32) (p2 : Int32) (p3 : Int32) : pk (f_X2_readNumber_1 h p1 p2 p3) (fun a => Fr S_X2_readNumber_1 h a) := by
  unfold f_X2_readNumber_1
  refine pk_if (fun _ => ?_) (fun _ => ?_)
  · refine pk_ob2 (w_f_X7_kind h) (fun r_2 h_2 k_1 => ?_)
    replace k_1 := Fr_trans (Fr_refl _ h) (Fr_mono fs_X7_kind__X2_readNumber_1 k_1)
    refine pk_if (fun _ => ?_) (fun _ => ?_)
    · refine pk_ob2 (w_f_X7_value h_2) (fun r_4 h_4 k_2 => ?_)
      replace k_2 := Fr_trans k_1 (Fr_mono fs_X7_value__X2_readNumber_1 k_2)
      refine pk_if (fun _ => ?_) (fun _ => ?_)
      · exact pk_mono (w_f_X2_readNumber_1_43 h_4) (fun _ k => Fr_trans k_2 (Fr_mono fs_X2_readNumber_1_43__X2_readNumber_1 k))
      · refine pk_ob2 (w_f_X7_value h_4) (fun r_6 h_6 k_3 => ?_)
        replace k_3 := Fr_trans k_2 (Fr_mono fs_X7_value__X2_readNumber_1 k_3)
        refine pk_if (fun _ => ?_) (fun _ => ?_)
        · refine pk_ob2 (w_f_X7_value h_6) (fun r_8 h_8 k_4 => ?_)
          replace k_4 := Fr_trans k_3 (Fr_mono fs_X7_value__X2_readNumber_1 k_4)
          refine pk_ob1 (w_f_X6_setClause_1 h_8 (eI h_6 10 1) p1 r_8) (fun h_9 k_5 => ?_)
          replace k_5 := Fr_trans k_4 (Fr_mono fs_X6_setClause_1__X2_readNumber_1 k_5)
          refine pk_ob1 (w_f_X7_advance h_9) (fun h_10 k_6 => ?_)
          replace k_6 := Fr_trans k_5 (Fr_mono fs_X7_advance__X2_readNumber_1 k_6)
          exact pk_mono (w_f_X2_readNumber_1_69 h_10) (fun _ k => Fr_trans k_6 (Fr_mono fs_X2_readNumber_1_69__X2_readNumber_1 k))
        · exact pk_mono (w_f_X2_readNumber_1_43 h_6) (fun _ k => Fr_trans k_3 (Fr_mono fs_X2_readNumber_1_43__X2_readNumber_1 k))
    · refine pk_ob1 (w_f_X2_fail h_2 1) (fun h_11 k_7 => ?_)
      replace k_7 := Fr_trans k_1 (Fr_mono fs_X2_fail__X2_readNumber_1 k_7)
      exact pk_mono (w_f_X2_readNumber_1_69 h_11) (fun _ k => Fr_trans k_7 (Fr_mono fs_X2_readNumber_1_69__X2_readNumber_1 k))
  · exact pk_some (Fr_refl _ h)
def S_X2_readDeed_1_90 : CL := []
theorem w_f_X2_readDeed_1_90 (h : HS) : pk (f_X2_readDeed_1_90 h) (fun a => Fr S_X2_readDeed_1_90 h a) := by
  unfold f_X2_readDeed_1_90
  exact pk_some (Fr_refl _ h)
def S_X2_readDeed_1 : CL := [(0, 4, 4), (0, 5, 0), (0, 5, 1), (1, 10, 0)]
theorem fs_X2_readNumber_1__X2_readDeed_1 : ∀ x ∈ S_X2_readNumber_1, x ∈ S_X2_readDeed_1 := by decide
theorem fs_X2_expect__X2_readDeed_1 : ∀ x ∈ S_X2_expect, x ∈ S_X2_readDeed_1 := by decide
theorem fs_X2_readDeed_1_90__X2_readDeed_1 : ∀ x ∈ S_X2_readDeed_1_90, x ∈ S_X2_readDeed_1 := by decide
theorem w_f_X2_readDeed_1 (h : HS) (p1 : Int32) : pk (f_X2_readDeed_1 h p1) (fun a => Fr S_X2_readDeed_1 h a) := by
  unfold f_X2_readDeed_1
  refine pk_if (fun _ => ?_) (fun _ => ?_)
  · refine pk_ob1 (w_f_X2_readNumber_1 h 1 1 99) (fun h_11 k_1 => ?_)
    replace k_1 := Fr_trans (Fr_refl _ h) (Fr_mono fs_X2_readNumber_1__X2_readDeed_1 k_1)
    exact pk_some k_1
  · refine pk_ob1 (w_f_X2_readNumber_1 h 1 0 9) (fun h_2 k_2 => ?_)
    replace k_2 := Fr_trans (Fr_refl _ h) (Fr_mono fs_X2_readNumber_1__X2_readDeed_1 k_2)
    refine pk_if (fun _ => ?_) (fun _ => ?_)
    · refine pk_ob1 (w_f_X2_expect h_2 24) (fun h_7 k_3 => ?_)
      replace k_3 := Fr_trans k_2 (Fr_mono fs_X2_expect__X2_readDeed_1 k_3)
      refine pk_ob1 (w_f_X2_readNumber_1 h_7 2 0 5) (fun h_8 k_4 => ?_)
      replace k_4 := Fr_trans k_3 (Fr_mono fs_X2_readNumber_1__X2_readDeed_1 k_4)
      refine pk_ob1 (w_f_X2_expect h_8 33) (fun h_9 k_5 => ?_)
      replace k_5 := Fr_trans k_4 (Fr_mono fs_X2_expect__X2_readDeed_1 k_5)
      refine pk_ob1 (w_f_X2_readNumber_1 h_9 3 0 2) (fun h_10 k_6 => ?_)
      replace k_6 := Fr_trans k_5 (Fr_mono fs_X2_readNumber_1__X2_readDeed_1 k_6)
      exact pk_mono (w_f_X2_readDeed_1_90 h_10) (fun _ k => Fr_trans k_6 (Fr_mono fs_X2_readDeed_1_90__X2_readDeed_1 k))
    · refine pk_if (fun _ => ?_) (fun _ => ?_)
      · refine pk_ob1 (w_f_X2_expect h_2 25) (fun h_5 k_7 => ?_)
        replace k_7 := Fr_trans k_2 (Fr_mono fs_X2_expect__X2_readDeed_1 k_7)
        refine pk_ob1 (w_f_X2_readNumber_1 h_5 2 0 3) (fun h_6 k_8 => ?_)
        replace k_8 := Fr_trans k_7 (Fr_mono fs_X2_readNumber_1__X2_readDeed_1 k_8)
        exact pk_mono (w_f_X2_readDeed_1_90 h_6) (fun _ k => Fr_trans k_8 (Fr_mono fs_X2_readDeed_1_90__X2_readDeed_1 k))
      · exact pk_mono (w_f_X2_readDeed_1_90 h_2) (fun _ k => Fr_trans k_2 (Fr_mono fs_X2_readDeed_1_90__X2_readDeed_1 k))
def S_read_1 : CL := [(0, 4, 4), (0, 5, 0), (0, 5, 1), (0, 10, 5), (1, 10, 2)]
theorem w_f_X2_readLevel_1_105 (kR_X2_readLevel : HS → Int32 → Int32 → Option HS) (hk_kR_X2_readLevel : ∀ (h : HS) (x0 : Int32) (x1 : Int32), pk (kR_X2_readLevel h x0 x1) (fun a => Fr S_read_1 h a)) (kR_X2_readAsk : HS → Int32 → Option HS) (hk_kR_X2_readAsk : ∀ (h : HS) (x0 : Int32), pk (kR_X2_readAsk h x0) (fun a => Fr S_read_1 h a)) (kR_X2_readOne : HS → Int32 → Option HS) (hk_kR_X2_readOne : ∀ (h : HS) (x0 : Int32), pk (kR_X2_readOne h x0) (fun a => Fr S_read_1 h a)) (h : HS) : pk (f_X2_readLevel_1_105 kR_X2_readLevel kR_X2_readAsk kR_X2_readOne h) (fun a => Fr S_read_1 h a) := by
  unfold f_X2_readLevel_1_105
  exact pk_some (Fr_refl _ h)
theorem fs_X7_kind__read_1 : ∀ x ∈ S_X7_kind, x ∈ S_read_1 := by decide
theorem fs_X7_advance__read_1 : ∀ x ∈ S_X7_advance, x ∈ S_read_1 := by decide
theorem fs_X6_addStep_1__read_1 : ∀ x ∈ S_X6_addStep_1, x ∈ S_read_1 := by decide
theorem w_f_X2_readLevel_1_42 (kR_X2_readLevel : HS → Int32 → Int32 → Option HS) (hk_kR_X2_readLevel : ∀ (h : HS) (x0 : Int32) (x1 : Int32), pk (kR_X2_readLevel h x0 x1) (fun a => Fr S_read_1 h a)) (kR_X2_readAsk : HS → Int32 → Option HS) (hk_kR_X2_readAsk : ∀ (h : HS) (x0 : Int32), pk (kR_X2_readAsk h x0) (fun a => Fr S_read_1 h a)) (kR_X2_readOne : HS → Int32 → Option HS) (hk_kR_X2_readOne : ∀ (h : HS) (x0 : Int32), pk (kR_X2_readOne h x0) (fun a => Fr S_read_1 h a)) : ∀ (n : Nat) (h : HS) (x3 : Int32) (x4 : Int32) (x5 : Int32), pk (f_X2_readLevel_1_42 kR_X2_readLevel kR_X2_readAsk kR_X2_readOne n h x3 x4 x5) (fun a => Fr S_read_1 h a) := by
  intro n
  induction n with
  | zero => intro h x3 x4 x5; exact pk_none
  | succ n ih =>
    intro h x3 x4 x5
    rw [f_X2_readLevel_1_42_s]
    refine pk_if (fun _ => ?_) (fun _ => ?_)
    · exact pk_mono (w_f_X2_readLevel_1_105 kR_X2_readLevel hk_kR_X2_readLevel kR_X2_readAsk hk_kR_X2_readAsk kR_X2_readOne hk_kR_X2_readOne h) (fun _ k => Fr_trans (Fr_refl _ h) k)
    · refine pk_if (fun _ => ?_) (fun _ => ?_)
      · refine pk_ob2 (w_f_X7_kind h) (fun r_8 h_8 k_1 => ?_)
        replace k_1 := Fr_trans (Fr_refl _ h) (Fr_mono fs_X7_kind__read_1 k_1)
        refine pk_obf (fun r_9 => ?_)
        refine pk_if (fun _ => ?_) (fun _ => ?_)
        · refine pk_ob2 (w_f_X7_kind h_8) (fun r_11 h_11 k_2 => ?_)
          replace k_2 := Fr_trans k_1 (Fr_mono fs_X7_kind__read_1 k_2)
          refine pk_ob1 (w_f_X7_advance h_11) (fun h_12 k_3 => ?_)
          replace k_3 := Fr_trans k_2 (Fr_mono fs_X7_advance__read_1 k_3)
          refine pk_ob1 (hk_kR_X2_readLevel h_12 (x3 + 1) x4) (fun h_13 k_4 => ?_)
          replace k_4 := Fr_trans k_3 k_4
          refine pk_ob1 (w_f_X6_addStep_1 h_13 (20000 + r_11)) (fun h_14 k_5 => ?_)
          replace k_5 := Fr_trans k_4 (Fr_mono fs_X6_addStep_1__read_1 k_5)
          exact pk_mono (ih h_14 x3 x4 (x5 + 1)) (fun _ k => Fr_trans k_5 k)
        · exact pk_mono (w_f_X2_readLevel_1_105 kR_X2_readLevel hk_kR_X2_readLevel kR_X2_readAsk hk_kR_X2_readAsk kR_X2_readOne hk_kR_X2_readOne h_8) (fun _ k => Fr_trans k_1 k)
      · exact pk_mono (w_f_X2_readLevel_1_105 kR_X2_readLevel hk_kR_X2_readLevel kR_X2_readAsk hk_kR_X2_readAsk kR_X2_readOne hk_kR_X2_readOne h) (fun _ k => Fr_trans (Fr_refl _ h) k)
theorem w_f_X2_readLevel_1_b (kR_X2_readLevel : HS → Int32 → Int32 → Option HS) (hk_kR_X2_readLevel : ∀ (h : HS) (x0 : Int32) (x1 : Int32), pk (kR_X2_readLevel h x0 x1) (fun a => Fr S_read_1 h a)) (kR_X2_readAsk : HS → Int32 → Option HS) (hk_kR_X2_readAsk : ∀ (h : HS) (x0 : Int32), pk (kR_X2_readAsk h x0) (fun a => Fr S_read_1 h a)) (kR_X2_readOne : HS → Int32 → Option HS) (hk_kR_X2_readOne : ∀ (h : HS) (x0 : Int32), pk (kR_X2_readOne h x0) (fun a => Fr S_read_1 h a)) (h : HS) (p1 : Int32) (p2 : Int32) : pk (f_X2_readLevel_1_b kR_X2_readLevel kR_X2_readAsk kR_X2_readOne h p1 p2) (fun a => Fr S_read_1 h a) := by
  unfold f_X2_readLevel_1_b
  refine pk_if (fun _ => ?_) (fun _ => ?_)
  · refine pk_ob1 (hk_kR_X2_readAsk h p2) (fun h_5 k_1 => ?_)
    replace k_1 := Fr_trans (Fr_refl _ h) k_1
    exact pk_some k_1
  · refine pk_if (fun _ => ?_) (fun _ => ?_)
    · refine pk_ob1 (hk_kR_X2_readOne h p2) (fun h_4 k_2 => ?_)
      replace k_2 := Fr_trans (Fr_refl _ h) k_2
      exact pk_some k_2
    · refine pk_ob1 (hk_kR_X2_readLevel h (p1 + 1) p2) (fun h_3 k_3 => ?_)
      replace k_3 := Fr_trans (Fr_refl _ h) k_3
      exact pk_mono (w_f_X2_readLevel_1_42 kR_X2_readLevel hk_kR_X2_readLevel kR_X2_readAsk hk_kR_X2_readAsk kR_X2_readOne hk_kR_X2_readOne 8589934592 h_3 p1 p2 0) (fun _ k => Fr_trans k_3 k)
theorem w_f_X2_readAsk_1_97 (kR_X2_readLevel : HS → Int32 → Int32 → Option HS) (hk_kR_X2_readLevel : ∀ (h : HS) (x0 : Int32) (x1 : Int32), pk (kR_X2_readLevel h x0 x1) (fun a => Fr S_read_1 h a)) (kR_X2_readAsk : HS → Int32 → Option HS) (hk_kR_X2_readAsk : ∀ (h : HS) (x0 : Int32), pk (kR_X2_readAsk h x0) (fun a => Fr S_read_1 h a)) (kR_X2_readOne : HS → Int32 → Option HS) (hk_kR_X2_readOne : ∀ (h : HS) (x0 : Int32), pk (kR_X2_readOne h x0) (fun a => Fr S_read_1 h a)) (h : HS) : pk (f_X2_readAsk_1_97 kR_X2_readLevel kR_X2_readAsk kR_X2_readOne h) (fun a => Fr S_read_1 h a) := by
  unfold f_X2_readAsk_1_97
  exact pk_some (Fr_refl _ h)
theorem w_f_X2_readAsk_1_68 (kR_X2_readLevel : HS → Int32 → Int32 → Option HS) (hk_kR_X2_readLevel : ∀ (h : HS) (x0 : Int32) (x1 : Int32), pk (kR_X2_readLevel h x0 x1) (fun a => Fr S_read_1 h a)) (kR_X2_readAsk : HS → Int32 → Option HS) (hk_kR_X2_readAsk : ∀ (h : HS) (x0 : Int32), pk (kR_X2_readAsk h x0) (fun a => Fr S_read_1 h a)) (kR_X2_readOne : HS → Int32 → Option HS) (hk_kR_X2_readOne : ∀ (h : HS) (x0 : Int32), pk (kR_X2_readOne h x0) (fun a => Fr S_read_1 h a)) (h : HS) (x3 : Int32) (x4 : Int32) : pk (f_X2_readAsk_1_68 kR_X2_readLevel kR_X2_readAsk kR_X2_readOne h x3 x4) (fun a => Fr S_read_1 h a) := by
  unfold f_X2_readAsk_1_68
  refine pk_if (fun _ => ?_) (fun _ => ?_)
  · refine pk_ob1 (w_f_X7_advance h) (fun h_13 k_1 => ?_)
    replace k_1 := Fr_trans (Fr_refl _ h) (Fr_mono fs_X7_advance__read_1 k_1)
    refine pk_ob1 (hk_kR_X2_readLevel h_13 3 x3) (fun h_14 k_2 => ?_)
    replace k_2 := Fr_trans k_1 k_2
    refine pk_ob1 (w_f_X6_addStep_1 h_14 (20000 + x4)) (fun h_15 k_3 => ?_)
    replace k_3 := Fr_trans k_2 (Fr_mono fs_X6_addStep_1__read_1 k_3)
    exact pk_mono (w_f_X2_readAsk_1_97 kR_X2_readLevel hk_kR_X2_readLevel kR_X2_readAsk hk_kR_X2_readAsk kR_X2_readOne hk_kR_X2_readOne h_15) (fun _ k => Fr_trans k_3 k)
  · exact pk_mono (w_f_X2_readAsk_1_97 kR_X2_readLevel hk_kR_X2_readLevel kR_X2_readAsk hk_kR_X2_readAsk kR_X2_readOne hk_kR_X2_readOne h) (fun _ k => Fr_trans (Fr_refl _ h) k)
theorem fs_X2_fail__read_1 : ∀ x ∈ S_X2_fail, x ∈ S_read_1 := by decide
theorem w_f_X2_readAsk_1_62 (kR_X2_readLevel : HS → Int32 → Int32 → Option HS) (hk_kR_X2_readLevel : ∀ (h : HS) (x0 : Int32) (x1 : Int32), pk (kR_X2_readLevel h x0 x1) (fun a => Fr S_read_1 h a)) (kR_X2_readAsk : HS → Int32 → Option HS) (hk_kR_X2_readAsk : ∀ (h : HS) (x0 : Int32), pk (kR_X2_readAsk h x0) (fun a => Fr S_read_1 h a)) (kR_X2_readOne : HS → Int32 → Option HS) (hk_kR_X2_readOne : ∀ (h : HS) (x0 : Int32), pk (kR_X2_readOne h x0) (fun a => Fr S_read_1 h a)) (h : HS) (x3 : Int32) (x4 : Int32) : pk (f_X2_readAsk_1_62 kR_X2_readLevel kR_X2_readAsk kR_X2_readOne h x3 x4) (fun a => Fr S_read_1 h a) := by
  unfold f_X2_readAsk_1_62
  refine pk_ob1 (w_f_X2_fail h 1) (fun h_11 k_1 => ?_)
  replace k_1 := Fr_trans (Fr_refl _ h) (Fr_mono fs_X2_fail__read_1 k_1)
  exact pk_mono (w_f_X2_readAsk_1_68 kR_X2_readLevel hk_kR_X2_readLevel kR_X2_readAsk hk_kR_X2_readAsk kR_X2_readOne hk_kR_X2_readOne h_11 x3 x4) (fun _ k => Fr_trans k_1 k)
theorem w_f_X2_readAsk_1_34 (kR_X2_readLevel : HS → Int32 → Int32 → Option HS) (hk_kR_X2_readLevel : ∀ (h : HS) (x0 : Int32) (x1 : Int32), pk (kR_X2_readLevel h x0 x1) (fun a => Fr S_read_1 h a)) (kR_X2_readAsk : HS → Int32 → Option HS) (hk_kR_X2_readAsk : ∀ (h : HS) (x0 : Int32), pk (kR_X2_readAsk h x0) (fun a => Fr S_read_1 h a)) (kR_X2_readOne : HS → Int32 → Option HS) (hk_kR_X2_readOne : ∀ (h : HS) (x0 : Int32), pk (kR_X2_readOne h x0) (fun a => Fr S_read_1 h a)) (h : HS) : pk (f_X2_readAsk_1_34 kR_X2_readLevel kR_X2_readAsk kR_X2_readOne h) (fun a => Fr S_read_1 h a) := by
  unfold f_X2_readAsk_1_34
  exact pk_some (Fr_refl _ h)
theorem fs_X2_opens__read_1 : ∀ x ∈ S_X2_opens, x ∈ S_read_1 := by decide
theorem w_f_X2_readAsk_1_b (kR_X2_readLevel : HS → Int32 → Int32 → Option HS) (hk_kR_X2_readLevel : ∀ (h : HS) (x0 : Int32) (x1 : Int32), pk (kR_X2_readLevel h x0 x1) (fun a => Fr S_read_1 h a)) (kR_X2_readAsk : HS → Int32 → Option HS) (hk_kR_X2_readAsk : ∀ (h : HS) (x0 : Int32), pk (kR_X2_readAsk h x0) (fun a => Fr S_read_1 h a)) (kR_X2_readOne : HS → Int32 → Option HS) (hk_kR_X2_readOne : ∀ (h : HS) (x0 : Int32), pk (kR_X2_readOne h x0) (fun a => Fr S_read_1 h a)) (h : HS) (p1 : Int32) : pk (f_X2_readAsk_1_b kR_X2_readLevel kR_X2_readAsk kR_X2_readOne h p1) (fun a => Fr S_read_1 h a) := by
  unfold f_X2_readAsk_1_b
  refine pk_ob2 (w_f_X7_kind h) (fun r_1 h_1 k_1 => ?_)
  replace k_1 := Fr_trans (Fr_refl _ h) (Fr_mono fs_X7_kind__read_1 k_1)
  refine pk_if (fun _ => ?_) (fun _ => ?_)
  · refine pk_ob2 (w_f_X2_opens h_1 p1) (fun r_7 h_7 k_2 => ?_)
    replace k_2 := Fr_trans k_1 (Fr_mono fs_X2_opens__read_1 k_2)
    refine pk_if (fun _ => ?_) (fun _ => ?_)
    · exact pk_mono (w_f_X2_readAsk_1_34 kR_X2_readLevel hk_kR_X2_readLevel kR_X2_readAsk hk_kR_X2_readAsk kR_X2_readOne hk_kR_X2_readOne h_7) (fun _ k => Fr_trans k_2 k)
    · refine pk_ob1 (hk_kR_X2_readAsk h_7 (p1 + 1)) (fun h_9 k_3 => ?_)
      replace k_3 := Fr_trans k_2 k_3
      refine pk_ob1 (w_f_X6_addStep_1 h_9 20028) (fun h_10 k_4 => ?_)
      replace k_4 := Fr_trans k_3 (Fr_mono fs_X6_addStep_1__read_1 k_4)
      exact pk_mono (w_f_X2_readAsk_1_34 kR_X2_readLevel hk_kR_X2_readLevel kR_X2_readAsk hk_kR_X2_readAsk kR_X2_readOne hk_kR_X2_readOne h_10) (fun _ k => Fr_trans k_4 k)
  · refine pk_ob1 (hk_kR_X2_readLevel h_1 3 p1) (fun h_3 k_5 => ?_)
    replace k_5 := Fr_trans k_1 k_5
    refine pk_ob2 (w_f_X7_kind h_3) (fun r_4 h_4 k_6 => ?_)
    replace k_6 := Fr_trans k_5 (Fr_mono fs_X7_kind__read_1 k_6)
    refine pk_if (fun _ => ?_) (fun _ => ?_)
    · exact pk_mono (w_f_X2_readAsk_1_62 kR_X2_readLevel hk_kR_X2_readLevel kR_X2_readAsk hk_kR_X2_readAsk kR_X2_readOne hk_kR_X2_readOne h_4 p1 r_4) (fun _ k => Fr_trans k_6 k)
    · refine pk_if (fun _ => ?_) (fun _ => ?_)
      · exact pk_mono (w_f_X2_readAsk_1_68 kR_X2_readLevel hk_kR_X2_readLevel kR_X2_readAsk hk_kR_X2_readAsk kR_X2_readOne hk_kR_X2_readOne h_4 p1 r_4) (fun _ k => Fr_trans k_6 k)
      · exact pk_mono (w_f_X2_readAsk_1_62 kR_X2_readLevel hk_kR_X2_readLevel kR_X2_readAsk hk_kR_X2_readAsk kR_X2_readOne hk_kR_X2_readOne h_4 p1 r_4) (fun _ k => Fr_trans k_6 k)
theorem w_f_X2_readOne_1_121 (kR_X2_readLevel : HS → Int32 → Int32 → Option HS) (hk_kR_X2_readLevel : ∀ (h : HS) (x0 : Int32) (x1 : Int32), pk (kR_X2_readLevel h x0 x1) (fun a => Fr S_read_1 h a)) (kR_X2_readAsk : HS → Int32 → Option HS) (hk_kR_X2_readAsk : ∀ (h : HS) (x0 : Int32), pk (kR_X2_readAsk h x0) (fun a => Fr S_read_1 h a)) (kR_X2_readOne : HS → Int32 → Option HS) (hk_kR_X2_readOne : ∀ (h : HS) (x0 : Int32), pk (kR_X2_readOne h x0) (fun a => Fr S_read_1 h a)) (h : HS) : pk (f_X2_readOne_1_121 kR_X2_readLevel kR_X2_readAsk kR_X2_readOne h) (fun a => Fr S_read_1 h a) := by
  unfold f_X2_readOne_1_121
  exact pk_some (Fr_refl _ h)
theorem fs_X2_expect__read_1 : ∀ x ∈ S_X2_expect, x ∈ S_read_1 := by decide
theorem w_f_X2_readOne_1_44 (kR_X2_readLevel : HS → Int32 → Int32 → Option HS) (hk_kR_X2_readLevel : ∀ (h : HS) (x0 : Int32) (x1 : Int32), pk (kR_X2_readLevel h x0 x1) (fun a => Fr S_read_1 h a)) (kR_X2_readAsk : HS → Int32 → Option HS) (hk_kR_X2_readAsk : ∀ (h : HS) (x0 : Int32), pk (kR_X2_readAsk h x0) (fun a => Fr S_read_1 h a)) (kR_X2_readOne : HS → Int32 → Option HS) (hk_kR_X2_readOne : ∀ (h : HS) (x0 : Int32), pk (kR_X2_readOne h x0) (fun a => Fr S_read_1 h a)) (h : HS) (x3 : Int32) (x4 : Int32) : pk (f_X2_readOne_1_44 kR_X2_readLevel kR_X2_readAsk kR_X2_readOne h x3 x4) (fun a => Fr S_read_1 h a) := by
  unfold f_X2_readOne_1_44
  refine pk_if (fun _ => ?_) (fun _ => ?_)
  · refine pk_ob2 (w_f_X2_opens h x3) (fun r_14 h_14 k_1 => ?_)
    replace k_1 := Fr_trans (Fr_refl _ h) (Fr_mono fs_X2_opens__read_1 k_1)
    refine pk_if (fun _ => ?_) (fun _ => ?_)
    · exact pk_mono (w_f_X2_readOne_1_121 kR_X2_readLevel hk_kR_X2_readLevel kR_X2_readAsk hk_kR_X2_readAsk kR_X2_readOne hk_kR_X2_readOne h_14) (fun _ k => Fr_trans k_1 k)
    · refine pk_ob1 (hk_kR_X2_readLevel h_14 3 (x3 + 1)) (fun h_16 k_2 => ?_)
      replace k_2 := Fr_trans k_1 k_2
      refine pk_ob1 (w_f_X2_expect h_16 14) (fun h_17 k_3 => ?_)
      replace k_3 := Fr_trans k_2 (Fr_mono fs_X2_expect__read_1 k_3)
      exact pk_mono (w_f_X2_readOne_1_121 kR_X2_readLevel hk_kR_X2_readLevel kR_X2_readAsk hk_kR_X2_readAsk kR_X2_readOne hk_kR_X2_readOne h_17) (fun _ k => Fr_trans k_3 k)
  · refine pk_if (fun _ => ?_) (fun _ => ?_)
    · refine pk_ob2 (w_f_X2_opens h x3) (fun r_10 h_10 k_4 => ?_)
      replace k_4 := Fr_trans (Fr_refl _ h) (Fr_mono fs_X2_opens__read_1 k_4)
      refine pk_if (fun _ => ?_) (fun _ => ?_)
      · exact pk_mono (w_f_X2_readOne_1_121 kR_X2_readLevel hk_kR_X2_readLevel kR_X2_readAsk hk_kR_X2_readAsk kR_X2_readOne hk_kR_X2_readOne h_10) (fun _ k => Fr_trans k_4 k)
      · refine pk_ob1 (hk_kR_X2_readOne h_10 (x3 + 1)) (fun h_12 k_5 => ?_)
        replace k_5 := Fr_trans k_4 k_5
        refine pk_ob1 (w_f_X6_addStep_1 h_12 20038) (fun h_13 k_6 => ?_)
        replace k_6 := Fr_trans k_5 (Fr_mono fs_X6_addStep_1__read_1 k_6)
        exact pk_mono (w_f_X2_readOne_1_121 kR_X2_readLevel hk_kR_X2_readLevel kR_X2_readAsk hk_kR_X2_readAsk kR_X2_readOne hk_kR_X2_readOne h_13) (fun _ k => Fr_trans k_6 k)
    · refine pk_ob1 (w_f_X2_fail h 1) (fun h_9 k_7 => ?_)
      replace k_7 := Fr_trans (Fr_refl _ h) (Fr_mono fs_X2_fail__read_1 k_7)
      exact pk_mono (w_f_X2_readOne_1_121 kR_X2_readLevel hk_kR_X2_readLevel kR_X2_readAsk hk_kR_X2_readAsk kR_X2_readOne hk_kR_X2_readOne h_9) (fun _ k => Fr_trans k_7 k)
theorem fs_X2_readValue_1__read_1 : ∀ x ∈ S_X2_readValue_1, x ∈ S_read_1 := by decide
theorem fs_X2_readName_1__read_1 : ∀ x ∈ S_X2_readName_1, x ∈ S_read_1 := by decide
theorem w_f_X2_readOne_1_b (kR_X2_readLevel : HS → Int32 → Int32 → Option HS) (hk_kR_X2_readLevel : ∀ (h : HS) (x0 : Int32) (x1 : Int32), pk (kR_X2_readLevel h x0 x1) (fun a => Fr S_read_1 h a)) (kR_X2_readAsk : HS → Int32 → Option HS) (hk_kR_X2_readAsk : ∀ (h : HS) (x0 : Int32), pk (kR_X2_readAsk h x0) (fun a => Fr S_read_1 h a)) (kR_X2_readOne : HS → Int32 → Option HS) (hk_kR_X2_readOne : ∀ (h : HS) (x0 : Int32), pk (kR_X2_readOne h x0) (fun a => Fr S_read_1 h a)) (h : HS) (p1 : Int32) : pk (f_X2_readOne_1_b kR_X2_readLevel kR_X2_readAsk kR_X2_readOne h p1) (fun a => Fr S_read_1 h a) := by
  unfold f_X2_readOne_1_b
  refine pk_ob2 (w_f_X7_kind h) (fun r_1 h_1 k_1 => ?_)
  replace k_1 := Fr_trans (Fr_refl _ h) (Fr_mono fs_X7_kind__read_1 k_1)
  refine pk_if (fun _ => ?_) (fun _ => ?_)
  · refine pk_ob1 (w_f_X2_readValue_1 h_1) (fun h_6 k_2 => ?_)
    replace k_2 := Fr_trans k_1 (Fr_mono fs_X2_readValue_1__read_1 k_2)
    exact pk_mono (w_f_X2_readOne_1_121 kR_X2_readLevel hk_kR_X2_readLevel kR_X2_readAsk hk_kR_X2_readAsk kR_X2_readOne hk_kR_X2_readOne h_6) (fun _ k => Fr_trans k_2 k)
  · refine pk_if (fun _ => ?_) (fun _ => ?_)
    · exact pk_mono (w_f_X2_readOne_1_44 kR_X2_readLevel hk_kR_X2_readLevel kR_X2_readAsk hk_kR_X2_readAsk kR_X2_readOne hk_kR_X2_readOne h_1 p1 r_1) (fun _ k => Fr_trans k_1 k)
    · refine pk_if (fun _ => ?_) (fun _ => ?_)
      · exact pk_mono (w_f_X2_readOne_1_44 kR_X2_readLevel hk_kR_X2_readLevel kR_X2_readAsk hk_kR_X2_readAsk kR_X2_readOne hk_kR_X2_readOne h_1 p1 r_1) (fun _ k => Fr_trans k_1 k)
      · refine pk_ob1 (w_f_X2_readName_1 h_1) (fun h_5 k_3 => ?_)
        replace k_3 := Fr_trans k_1 (Fr_mono fs_X2_readName_1__read_1 k_3)
        exact pk_mono (w_f_X2_readOne_1_121 kR_X2_readLevel hk_kR_X2_readLevel kR_X2_readAsk hk_kR_X2_readAsk kR_X2_readOne hk_kR_X2_readOne h_5) (fun _ k => Fr_trans k_3 k)
theorem w_G_read_1 : ∀ (n t : Nat) (h : HS) (p1 p2 : Int32), pk (G_read_1 n t h p1 p2) (fun a => Fr S_read_1 h a) := by
  intro n
  induction n with
  | zero => intro t h p1 p2; exact (by simp [G_read_1]; exact pk_none)
  | succ n ih =>
    intro t h p1 p2
    match t with
    | 0 => exact w_f_X2_readLevel_1_b (fun h p1 p2 => G_read_1 n 0 h p1 p2) (fun h p1 p2 => ih 0 h p1 p2) (fun h p1 => G_read_1 n 1 h p1 0) (fun h p1 => ih 1 h p1 0) (fun h p1 => G_read_1 n 2 h p1 0) (fun h p1 => ih 2 h p1 0) h p1 p2
    | 1 => exact w_f_X2_readAsk_1_b (fun h p1 p2 => G_read_1 n 0 h p1 p2) (fun h p1 p2 => ih 0 h p1 p2) (fun h p1 => G_read_1 n 1 h p1 0) (fun h p1 => ih 1 h p1 0) (fun h p1 => G_read_1 n 2 h p1 0) (fun h p1 => ih 2 h p1 0) h p1
    | t + 2 => exact w_f_X2_readOne_1_b (fun h p1 p2 => G_read_1 n 0 h p1 p2) (fun h p1 p2 => ih 0 h p1 p2) (fun h p1 => G_read_1 n 1 h p1 0) (fun h p1 => ih 1 h p1 0) (fun h p1 => G_read_1 n 2 h p1 0) (fun h p1 => ih 2 h p1 0) h p1
def S_X2_readClause_1_158 : CL := []
theorem w_f_X2_readClause_1_158 (h : HS) : pk (f_X2_readClause_1_158 h) (fun a => Fr S_X2_readClause_1_158 h a) := by
  unfold f_X2_readClause_1_158
  exact pk_some (Fr_refl _ h)
def S_X2_readClause_1_25 : CL := [(0, 5, 0), (0, 5, 1)]
theorem fs_X2_fail__X2_readClause_1_25 : ∀ x ∈ S_X2_fail, x ∈ S_X2_readClause_1_25 := by decide
theorem fs_X2_readClause_1_158__X2_readClause_1_25 : ∀ x ∈ S_X2_readClause_1_158, x ∈ S_X2_readClause_1_25 := by decide
theorem w_f_X2_readClause_1_25 (h : HS) : pk (f_X2_readClause_1_25 h) (fun a => Fr S_X2_readClause_1_25 h a) := by
  unfold f_X2_readClause_1_25
  refine pk_ob1 (w_f_X2_fail h 1) (fun h_15 k_1 => ?_)
  replace k_1 := Fr_trans (Fr_refl _ h) (Fr_mono fs_X2_fail__X2_readClause_1_25 k_1)
  exact pk_mono (w_f_X2_readClause_1_158 h_15) (fun _ k => Fr_trans k_1 (Fr_mono fs_X2_readClause_1_158__X2_readClause_1_25 k))
def S_X2_readClause_1_141 : CL := [(0, 4, 4), (0, 5, 0), (0, 5, 1), (0, 10, 1)]
theorem fm_X2_readClause_1_141_0_10_1 : (0, 10, 1) ∈ S_X2_readClause_1_141 := by decide
theorem fs_X2_expect__X2_readClause_1_141 : ∀ x ∈ S_X2_expect, x ∈ S_X2_readClause_1_141 := by decide
theorem fs_X2_readClause_1_158__X2_readClause_1_141 : ∀ x ∈ S_X2_readClause_1_158, x ∈ S_X2_readClause_1_141 := by decide
theorem w_f_X2_readClause_1_141 (h : HS) : pk (f_X2_readClause_1_141 h) (fun a => Fr S_X2_readClause_1_141 h a) := by
  unfold f_X2_readClause_1_141
  refine pk_ob1 (w_f_X2_expect h 15) (fun h_16 k_1 => ?_)
  replace k_1 := Fr_trans (Fr_refl _ h) (Fr_mono fs_X2_expect__X2_readClause_1_141 k_1)
  exact pk_mono (w_f_X2_readClause_1_158 (sI h_16 10 1 ((eI h_16 10 1) + 1))) (fun _ k => Fr_trans (Fr_sI fm_X2_readClause_1_141_0_10_1 k_1) (Fr_mono fs_X2_readClause_1_158__X2_readClause_1_141 k))
def S_X2_readClause_1_119 : CL := [(0, 4, 4), (0, 5, 0), (0, 5, 1), (0, 10, 1), (0, 10, 5), (1, 10, 2), (1, 10, 4)]
theorem fs_read_1__X2_readClause_1_119 : ∀ x ∈ S_read_1, x ∈ S_X2_readClause_1_119 := by decide
theorem fs_X6_closeLaw_1__X2_readClause_1_119 : ∀ x ∈ S_X6_closeLaw_1, x ∈ S_X2_readClause_1_119 := by decide
theorem fs_X2_readClause_1_141__X2_readClause_1_119 : ∀ x ∈ S_X2_readClause_1_141, x ∈ S_X2_readClause_1_119 := by decide
theorem w_f_X2_readClause_1_119 (h : HS) (y0 : Int32) : pk (f_X2_readClause_1_119 h y0) (fun a => Fr S_X2_readClause_1_119 h a) := by
  unfold f_X2_readClause_1_119
  refine pk_ob1 (w_G_read_1 200 0 h y0 0) (fun h_17 k_1 => ?_)
  replace k_1 := Fr_trans (Fr_refl _ h) (Fr_mono fs_read_1__X2_readClause_1_119 k_1)
  refine pk_ob1 (w_f_X6_closeLaw_1 h_17 (eI h_17 5 2)) (fun h_18 k_2 => ?_)
  replace k_2 := Fr_trans k_1 (Fr_mono fs_X6_closeLaw_1__X2_readClause_1_119 k_2)
  exact pk_mono (w_f_X2_readClause_1_141 h_18) (fun _ k => Fr_trans k_2 (Fr_mono fs_X2_readClause_1_141__X2_readClause_1_119 k))
def S_X2_readClause_1 : CL := [(0, 4, 4), (0, 5, 0), (0, 5, 1), (0, 5, 2), (0, 10, 1), (0, 10, 5), (1, 10, 0), (1, 10, 2), (1, 10, 3), (1, 10, 4)]
theorem fm_X2_readClause_1_0_5_2 : (0, 5, 2) ∈ S_X2_readClause_1 := by decide
theorem fs_X7_kind__X2_readClause_1 : ∀ x ∈ S_X7_kind, x ∈ S_X2_readClause_1 := by decide
theorem fs_X2_readClause_1_25__X2_readClause_1 : ∀ x ∈ S_X2_readClause_1_25, x ∈ S_X2_readClause_1 := by decide
theorem fs_X6_hasLaw_1__X2_readClause_1 : ∀ x ∈ S_X6_hasLaw_1, x ∈ S_X2_readClause_1 := by decide
theorem fs_X6_setClause_1__X2_readClause_1 : ∀ x ∈ S_X6_setClause_1, x ∈ S_X2_readClause_1 := by decide
theorem fs_X7_advance__X2_readClause_1 : ∀ x ∈ S_X7_advance, x ∈ S_X2_readClause_1 := by decide
theorem fs_X2_readDeed_1__X2_readClause_1 : ∀ x ∈ S_X2_readDeed_1, x ∈ S_X2_readClause_1 := by decide
theorem fs_X2_readClause_1_141__X2_readClause_1 : ∀ x ∈ S_X2_readClause_1_141, x ∈ S_X2_readClause_1 := by decide
theorem fs_X6_beginLaw_1__X2_readClause_1 : ∀ x ∈ S_X6_beginLaw_1, x ∈ S_X2_readClause_1 := by decide
theorem fs_X2_readClause_1_119__X2_readClause_1 : ∀ x ∈ S_X2_readClause_1_119, x ∈ S_X2_readClause_1 := by decide
theorem fs_X2_fail__X2_readClause_1 : ∀ x ∈ S_X2_fail, x ∈ S_X2_readClause_1 := by decide
theorem fs_X2_readClause_1_158__X2_readClause_1 : ∀ x ∈ S_X2_readClause_1_158, x ∈ S_X2_readClause_1 := by decide
theorem w_f_X2_readClause_1 (h : HS) : pk (f_X2_readClause_1 h) (fun a => Fr S_X2_readClause_1 h a) := by
  unfold f_X2_readClause_1
  refine pk_ob2 (w_f_X7_kind h) (fun r_1 h_1 k_1 => ?_)
  replace k_1 := Fr_trans (Fr_refl _ h) (Fr_mono fs_X7_kind__X2_readClause_1 k_1)
  refine pk_if (fun _ => ?_) (fun _ => ?_)
  · exact pk_mono (w_f_X2_readClause_1_25 (sI h_1 5 2 (r_1 - 16))) (fun _ k => Fr_trans (Fr_sI fm_X2_readClause_1_0_5_2 k_1) (Fr_mono fs_X2_readClause_1_25__X2_readClause_1 k))
  · refine pk_if (fun _ => ?_) (fun _ => ?_)
    · refine pk_ob2 (w_f_X6_hasLaw_1 (sI h_1 5 2 (r_1 - 16)) (r_1 - 16)) (fun r_4 h_4 k_2 => ?_)
      replace k_2 := Fr_trans (Fr_sI fm_X2_readClause_1_0_5_2 k_1) (Fr_mono fs_X6_hasLaw_1__X2_readClause_1 k_2)
      refine pk_if (fun _ => ?_) (fun _ => ?_)
      · refine pk_if (fun _ => ?_) (fun _ => ?_)
        · refine pk_ob1 (w_f_X6_setClause_1 h_4 (eI h_4 10 1) 0 r_1) (fun h_7 k_3 => ?_)
          replace k_3 := Fr_trans k_2 (Fr_mono fs_X6_setClause_1__X2_readClause_1 k_3)
          refine pk_ob1 (w_f_X7_advance h_7) (fun h_8 k_4 => ?_)
          replace k_4 := Fr_trans k_3 (Fr_mono fs_X7_advance__X2_readClause_1 k_4)
          refine pk_if (fun _ => ?_) (fun _ => ?_)
          · refine pk_ob1 (w_f_X2_readDeed_1 h_8 r_1) (fun h_10 k_5 => ?_)
            replace k_5 := Fr_trans k_4 (Fr_mono fs_X2_readDeed_1__X2_readClause_1 k_5)
            exact pk_mono (w_f_X2_readClause_1_141 h_10) (fun _ k => Fr_trans k_5 (Fr_mono fs_X2_readClause_1_141__X2_readClause_1 k))
          · refine pk_ob1 (w_f_X6_beginLaw_1 h_8 (eI h_8 5 2)) (fun h_11 k_6 => ?_)
            replace k_6 := Fr_trans k_4 (Fr_mono fs_X6_beginLaw_1__X2_readClause_1 k_6)
            refine pk_if (fun _ => ?_) (fun _ => ?_)
            · exact pk_mono (w_f_X2_readClause_1_119 h_11 0) (fun _ k => Fr_trans k_6 (Fr_mono fs_X2_readClause_1_119__X2_readClause_1 k))
            · exact pk_mono (w_f_X2_readClause_1_119 h_11 3) (fun _ k => Fr_trans k_6 (Fr_mono fs_X2_readClause_1_119__X2_readClause_1 k))
        · refine pk_ob1 (w_f_X2_fail h_4 6) (fun h_13 k_7 => ?_)
          replace k_7 := Fr_trans k_2 (Fr_mono fs_X2_fail__X2_readClause_1 k_7)
          exact pk_mono (w_f_X2_readClause_1_158 h_13) (fun _ k => Fr_trans k_7 (Fr_mono fs_X2_readClause_1_158__X2_readClause_1 k))
      · refine pk_ob1 (w_f_X2_fail h_4 4) (fun h_14 k_8 => ?_)
        replace k_8 := Fr_trans k_2 (Fr_mono fs_X2_fail__X2_readClause_1 k_8)
        exact pk_mono (w_f_X2_readClause_1_158 h_14) (fun _ k => Fr_trans k_8 (Fr_mono fs_X2_readClause_1_158__X2_readClause_1 k))
    · exact pk_mono (w_f_X2_readClause_1_25 (sI h_1 5 2 (r_1 - 16))) (fun _ k => Fr_trans (Fr_sI fm_X2_readClause_1_0_5_2 k_1) (Fr_mono fs_X2_readClause_1_25__X2_readClause_1 k))
def S_X2_parse_1_48 : CL := []
theorem w_f_X2_parse_1_48 (h : HS) : pk (f_X2_parse_1_48 h) (fun a => Fr S_X2_parse_1_48 h a) := by
  unfold f_X2_parse_1_48
  exact pk_some (Fr_refl _ h)
def S_X2_parse_1_16 : CL := [(0, 4, 4), (0, 5, 0), (0, 5, 1), (0, 5, 2), (0, 10, 1), (0, 10, 5), (1, 10, 0), (1, 10, 2), (1, 10, 3), (1, 10, 4)]
theorem fs_X2_parse_1_48__X2_parse_1_16 : ∀ x ∈ S_X2_parse_1_48, x ∈ S_X2_parse_1_16 := by decide
theorem fs_X7_kind__X2_parse_1_16 : ∀ x ∈ S_X7_kind, x ∈ S_X2_parse_1_16 := by decide
theorem fs_X2_readClause_1__X2_parse_1_16 : ∀ x ∈ S_X2_readClause_1, x ∈ S_X2_parse_1_16 := by decide
theorem w_f_X2_parse_1_16  : ∀ (n : Nat) (h : HS) (x3 : Int32), pk (f_X2_parse_1_16  n h x3) (fun a => Fr S_X2_parse_1_16 h a) := by
  intro n
  induction n with
  | zero => intro h x3; exact pk_none
  | succ n ih =>
    intro h x3
    rw [f_X2_parse_1_16_s]
    refine pk_if (fun _ => ?_) (fun _ => ?_)
    · exact pk_mono (w_f_X2_parse_1_48 h) (fun _ k => Fr_trans (Fr_refl _ h) (Fr_mono fs_X2_parse_1_48__X2_parse_1_16 k))
    · refine pk_if (fun _ => ?_) (fun _ => ?_)
      · refine pk_ob2 (w_f_X7_kind h) (fun r_4 h_4 k_1 => ?_)
        replace k_1 := Fr_trans (Fr_refl _ h) (Fr_mono fs_X7_kind__X2_parse_1_16 k_1)
        refine pk_if (fun _ => ?_) (fun _ => ?_)
        · exact pk_mono (w_f_X2_parse_1_48 h_4) (fun _ k => Fr_trans k_1 (Fr_mono fs_X2_parse_1_48__X2_parse_1_16 k))
        · refine pk_ob1 (w_f_X2_readClause_1 h_4) (fun h_6 k_2 => ?_)
          replace k_2 := Fr_trans k_1 (Fr_mono fs_X2_readClause_1__X2_parse_1_16 k_2)
          exact pk_mono (ih h_6 (x3 + 1)) (fun _ k => Fr_trans k_2 k)
      · exact pk_mono (w_f_X2_parse_1_48 h) (fun _ k => Fr_trans (Fr_refl _ h) (Fr_mono fs_X2_parse_1_48__X2_parse_1_16 k))
def S_X2_parse_1 : CL := [(0, 4, 4), (0, 5, 0), (0, 5, 1), (0, 5, 2), (0, 10, 1), (0, 10, 5), (1, 10, 0), (1, 10, 2), (1, 10, 3), (1, 10, 4)]
theorem fm_X2_parse_1_0_5_1 : (0, 5, 1) ∈ S_X2_parse_1 := by decide
theorem fm_X2_parse_1_0_5_0 : (0, 5, 0) ∈ S_X2_parse_1 := by decide
theorem fs_X6_clear_1__X2_parse_1 : ∀ x ∈ S_X6_clear_1, x ∈ S_X2_parse_1 := by decide
theorem fs_X2_parse_1_16__X2_parse_1 : ∀ x ∈ S_X2_parse_1_16, x ∈ S_X2_parse_1 := by decide
theorem w_f_X2_parse_1 (h : HS) : pk (f_X2_parse_1 h) (fun a => Fr S_X2_parse_1 h a) := by
  unfold f_X2_parse_1
  refine pk_ob1 (w_f_X6_clear_1 (sI (sI h 5 0 0) 5 1 (-1))) (fun h_1 k_1 => ?_)
  replace k_1 := Fr_trans (Fr_sI fm_X2_parse_1_0_5_1 (Fr_sI fm_X2_parse_1_0_5_0 (Fr_refl _ h))) (Fr_mono fs_X6_clear_1__X2_parse_1 k_1)
  exact pk_mono (w_f_X2_parse_1_16 8589934592 h_1 0) (fun _ k => Fr_trans k_1 (Fr_mono fs_X2_parse_1_16__X2_parse_1 k))
def S_X2_readValue_2 : CL := [(0, 4, 4), (0, 5, 0), (0, 5, 1), (0, 11, 5), (1, 11, 2)]
theorem fs_X7_value__X2_readValue_2 : ∀ x ∈ S_X7_value, x ∈ S_X2_readValue_2 := by decide
theorem fs_X6_addStep_2__X2_readValue_2 : ∀ x ∈ S_X6_addStep_2, x ∈ S_X2_readValue_2 := by decide
theorem fs_X7_advance__X2_readValue_2 : ∀ x ∈ S_X7_advance, x ∈ S_X2_readValue_2 := by decide
theorem fs_X2_fail__X2_readValue_2 : ∀ x ∈ S_X2_fail, x ∈ S_X2_readValue_2 := by decide
theorem w_f_X2_readValue_2 (h : HS) : pk (f_X2_readValue_2 h) (fun a => Fr S_X2_readValue_2 h a) := by
  unfold f_X2_readValue_2
  refine pk_ob2 (w_f_X7_value h) (fun r_1 h_1 k_1 => ?_)
  replace k_1 := Fr_trans (Fr_refl _ h) (Fr_mono fs_X7_value__X2_readValue_2 k_1)
  refine pk_if (fun _ => ?_) (fun _ => ?_)
  · refine pk_ob2 (w_f_X7_value h_1) (fun r_3 h_3 k_2 => ?_)
    replace k_2 := Fr_trans k_1 (Fr_mono fs_X7_value__X2_readValue_2 k_2)
    refine pk_ob1 (w_f_X6_addStep_2 h_3 r_3) (fun h_4 k_3 => ?_)
    replace k_3 := Fr_trans k_2 (Fr_mono fs_X6_addStep_2__X2_readValue_2 k_3)
    refine pk_ob1 (w_f_X7_advance h_4) (fun h_5 k_4 => ?_)
    replace k_4 := Fr_trans k_3 (Fr_mono fs_X7_advance__X2_readValue_2 k_4)
    exact pk_some k_4
  · refine pk_ob1 (w_f_X2_fail h_1 2) (fun h_6 k_5 => ?_)
    replace k_5 := Fr_trans k_1 (Fr_mono fs_X2_fail__X2_readValue_2 k_5)
    exact pk_some k_5
def S_X2_readName_2_31 : CL := [(0, 4, 4), (0, 11, 5), (1, 11, 2)]
theorem fs_X7_kind__X2_readName_2_31 : ∀ x ∈ S_X7_kind, x ∈ S_X2_readName_2_31 := by decide
theorem fs_X6_addStep_2__X2_readName_2_31 : ∀ x ∈ S_X6_addStep_2, x ∈ S_X2_readName_2_31 := by decide
theorem fs_X7_advance__X2_readName_2_31 : ∀ x ∈ S_X7_advance, x ∈ S_X2_readName_2_31 := by decide
theorem w_f_X2_readName_2_31 (h : HS) : pk (f_X2_readName_2_31 h) (fun a => Fr S_X2_readName_2_31 h a) := by
  unfold f_X2_readName_2_31
  refine pk_ob2 (w_f_X7_kind h) (fun r_6 h_6 k_1 => ?_)
  replace k_1 := Fr_trans (Fr_refl _ h) (Fr_mono fs_X7_kind__X2_readName_2_31 k_1)
  refine pk_ob1 (w_f_X6_addStep_2 h_6 ((10000 + r_6) - 29)) (fun h_7 k_2 => ?_)
  replace k_2 := Fr_trans k_1 (Fr_mono fs_X6_addStep_2__X2_readName_2_31 k_2)
  refine pk_ob1 (w_f_X7_advance h_7) (fun h_8 k_3 => ?_)
  replace k_3 := Fr_trans k_2 (Fr_mono fs_X7_advance__X2_readName_2_31 k_3)
  exact pk_some k_3
def S_X2_readName_2 : CL := [(0, 4, 4), (0, 5, 0), (0, 5, 1), (0, 11, 5), (1, 11, 2)]
theorem fs_X7_kind__X2_readName_2 : ∀ x ∈ S_X7_kind, x ∈ S_X2_readName_2 := by decide
theorem fs_X2_readName_2_31__X2_readName_2 : ∀ x ∈ S_X2_readName_2_31, x ∈ S_X2_readName_2 := by decide
theorem fs_X2_fail__X2_readName_2 : ∀ x ∈ S_X2_fail, x ∈ S_X2_readName_2 := by decide
theorem w_f_X2_readName_2 (h : HS) : pk (f_X2_readName_2 h) (fun a => Fr S_X2_readName_2 h a) := by
  unfold f_X2_readName_2
  refine pk_ob2 (w_f_X7_kind h) (fun r_1 h_1 k_1 => ?_)
  replace k_1 := Fr_trans (Fr_refl _ h) (Fr_mono fs_X7_kind__X2_readName_2 k_1)
  refine pk_if (fun _ => ?_) (fun _ => ?_)
  · exact pk_mono (w_f_X2_readName_2_31 h_1) (fun _ k => Fr_trans k_1 (Fr_mono fs_X2_readName_2_31__X2_readName_2 k))
  · refine pk_if (fun _ => ?_) (fun _ => ?_)
    · exact pk_mono (w_f_X2_readName_2_31 h_1) (fun _ k => Fr_trans k_1 (Fr_mono fs_X2_readName_2_31__X2_readName_2 k))
    · refine pk_if (fun _ => ?_) (fun _ => ?_)
      · exact pk_mono (w_f_X2_readName_2_31 h_1) (fun _ k => Fr_trans k_1 (Fr_mono fs_X2_readName_2_31__X2_readName_2 k))
      · refine pk_ob1 (w_f_X2_fail h_1 5) (fun h_5 k_2 => ?_)
        replace k_2 := Fr_trans k_1 (Fr_mono fs_X2_fail__X2_readName_2 k_2)
        exact pk_some k_2
def S_X2_readNumber_2_69 : CL := []
theorem w_f_X2_readNumber_2_69 (h : HS) : pk (f_X2_readNumber_2_69 h) (fun a => Fr S_X2_readNumber_2_69 h a) := by
  unfold f_X2_readNumber_2_69
  exact pk_some (Fr_refl _ h)
def S_X2_readNumber_2_43 : CL := [(0, 5, 0), (0, 5, 1)]
theorem fs_X2_fail__X2_readNumber_2_43 : ∀ x ∈ S_X2_fail, x ∈ S_X2_readNumber_2_43 := by decide
theorem fs_X2_readNumber_2_69__X2_readNumber_2_43 : ∀ x ∈ S_X2_readNumber_2_69, x ∈ S_X2_readNumber_2_43 := by decide
theorem w_f_X2_readNumber_2_43 (h : HS) : pk (f_X2_readNumber_2_43 h) (fun a => Fr S_X2_readNumber_2_43 h a) := by
  unfold f_X2_readNumber_2_43
  refine pk_ob1 (w_f_X2_fail h 2) (fun h_12 k_1 => ?_)
  replace k_1 := Fr_trans (Fr_refl _ h) (Fr_mono fs_X2_fail__X2_readNumber_2_43 k_1)
  exact pk_mono (w_f_X2_readNumber_2_69 h_12) (fun _ k => Fr_trans k_1 (Fr_mono fs_X2_readNumber_2_69__X2_readNumber_2_43 k))
def S_X2_readNumber_2 : CL := [(0, 4, 4), (0, 5, 0), (0, 5, 1), (1, 11, 0)]
theorem fs_X7_kind__X2_readNumber_2 : ∀ x ∈ S_X7_kind, x ∈ S_X2_readNumber_2 := by decide
theorem fs_X7_value__X2_readNumber_2 : ∀ x ∈ S_X7_value, x ∈ S_X2_readNumber_2 := by decide
theorem fs_X2_readNumber_2_43__X2_readNumber_2 : ∀ x ∈ S_X2_readNumber_2_43, x ∈ S_X2_readNumber_2 := by decide
theorem fs_X6_setClause_2__X2_readNumber_2 : ∀ x ∈ S_X6_setClause_2, x ∈ S_X2_readNumber_2 := by decide
theorem fs_X7_advance__X2_readNumber_2 : ∀ x ∈ S_X7_advance, x ∈ S_X2_readNumber_2 := by decide
theorem fs_X2_readNumber_2_69__X2_readNumber_2 : ∀ x ∈ S_X2_readNumber_2_69, x ∈ S_X2_readNumber_2 := by decide
theorem fs_X2_fail__X2_readNumber_2 : ∀ x ∈ S_X2_fail, x ∈ S_X2_readNumber_2 := by decide
theorem w_f_X2_readNumber_2 (h : HS) (p1 : Int32) (p2 : Int32) (p3 : Int32) : pk (f_X2_readNumber_2 h p1 p2 p3) (fun a => Fr S_X2_readNumber_2 h a) := by
  unfold f_X2_readNumber_2
  refine pk_if (fun _ => ?_) (fun _ => ?_)
  · refine pk_ob2 (w_f_X7_kind h) (fun r_2 h_2 k_1 => ?_)
    replace k_1 := Fr_trans (Fr_refl _ h) (Fr_mono fs_X7_kind__X2_readNumber_2 k_1)
    refine pk_if (fun _ => ?_) (fun _ => ?_)
    · refine pk_ob2 (w_f_X7_value h_2) (fun r_4 h_4 k_2 => ?_)
      replace k_2 := Fr_trans k_1 (Fr_mono fs_X7_value__X2_readNumber_2 k_2)
      refine pk_if (fun _ => ?_) (fun _ => ?_)
      · exact pk_mono (w_f_X2_readNumber_2_43 h_4) (fun _ k => Fr_trans k_2 (Fr_mono fs_X2_readNumber_2_43__X2_readNumber_2 k))
      · refine pk_ob2 (w_f_X7_value h_4) (fun r_6 h_6 k_3 => ?_)
        replace k_3 := Fr_trans k_2 (Fr_mono fs_X7_value__X2_readNumber_2 k_3)
        refine pk_if (fun _ => ?_) (fun _ => ?_)
        · refine pk_ob2 (w_f_X7_value h_6) (fun r_8 h_8 k_4 => ?_)
          replace k_4 := Fr_trans k_3 (Fr_mono fs_X7_value__X2_readNumber_2 k_4)
          refine pk_ob1 (w_f_X6_setClause_2 h_8 (eI h_6 11 1) p1 r_8) (fun h_9 k_5 => ?_)
          replace k_5 := Fr_trans k_4 (Fr_mono fs_X6_setClause_2__X2_readNumber_2 k_5)
          refine pk_ob1 (w_f_X7_advance h_9) (fun h_10 k_6 => ?_)
          replace k_6 := Fr_trans k_5 (Fr_mono fs_X7_advance__X2_readNumber_2 k_6)
          exact pk_mono (w_f_X2_readNumber_2_69 h_10) (fun _ k => Fr_trans k_6 (Fr_mono fs_X2_readNumber_2_69__X2_readNumber_2 k))
        · exact pk_mono (w_f_X2_readNumber_2_43 h_6) (fun _ k => Fr_trans k_3 (Fr_mono fs_X2_readNumber_2_43__X2_readNumber_2 k))
    · refine pk_ob1 (w_f_X2_fail h_2 1) (fun h_11 k_7 => ?_)
      replace k_7 := Fr_trans k_1 (Fr_mono fs_X2_fail__X2_readNumber_2 k_7)
      exact pk_mono (w_f_X2_readNumber_2_69 h_11) (fun _ k => Fr_trans k_7 (Fr_mono fs_X2_readNumber_2_69__X2_readNumber_2 k))
  · exact pk_some (Fr_refl _ h)
def S_X2_readDeed_2_90 : CL := []
theorem w_f_X2_readDeed_2_90 (h : HS) : pk (f_X2_readDeed_2_90 h) (fun a => Fr S_X2_readDeed_2_90 h a) := by
  unfold f_X2_readDeed_2_90
  exact pk_some (Fr_refl _ h)
def S_X2_readDeed_2 : CL := [(0, 4, 4), (0, 5, 0), (0, 5, 1), (1, 11, 0)]
theorem fs_X2_readNumber_2__X2_readDeed_2 : ∀ x ∈ S_X2_readNumber_2, x ∈ S_X2_readDeed_2 := by decide
theorem fs_X2_expect__X2_readDeed_2 : ∀ x ∈ S_X2_expect, x ∈ S_X2_readDeed_2 := by decide
theorem fs_X2_readDeed_2_90__X2_readDeed_2 : ∀ x ∈ S_X2_readDeed_2_90, x ∈ S_X2_readDeed_2 := by decide
theorem w_f_X2_readDeed_2 (h : HS) (p1 : Int32) : pk (f_X2_readDeed_2 h p1) (fun a => Fr S_X2_readDeed_2 h a) := by
  unfold f_X2_readDeed_2
  refine pk_if (fun _ => ?_) (fun _ => ?_)
  · refine pk_ob1 (w_f_X2_readNumber_2 h 1 1 99) (fun h_11 k_1 => ?_)
    replace k_1 := Fr_trans (Fr_refl _ h) (Fr_mono fs_X2_readNumber_2__X2_readDeed_2 k_1)
    exact pk_some k_1
  · refine pk_ob1 (w_f_X2_readNumber_2 h 1 0 9) (fun h_2 k_2 => ?_)
    replace k_2 := Fr_trans (Fr_refl _ h) (Fr_mono fs_X2_readNumber_2__X2_readDeed_2 k_2)
    refine pk_if (fun _ => ?_) (fun _ => ?_)
    · refine pk_ob1 (w_f_X2_expect h_2 24) (fun h_7 k_3 => ?_)
      replace k_3 := Fr_trans k_2 (Fr_mono fs_X2_expect__X2_readDeed_2 k_3)
      refine pk_ob1 (w_f_X2_readNumber_2 h_7 2 0 5) (fun h_8 k_4 => ?_)
      replace k_4 := Fr_trans k_3 (Fr_mono fs_X2_readNumber_2__X2_readDeed_2 k_4)
      refine pk_ob1 (w_f_X2_expect h_8 33) (fun h_9 k_5 => ?_)
      replace k_5 := Fr_trans k_4 (Fr_mono fs_X2_expect__X2_readDeed_2 k_5)
      refine pk_ob1 (w_f_X2_readNumber_2 h_9 3 0 2) (fun h_10 k_6 => ?_)
      replace k_6 := Fr_trans k_5 (Fr_mono fs_X2_readNumber_2__X2_readDeed_2 k_6)
      exact pk_mono (w_f_X2_readDeed_2_90 h_10) (fun _ k => Fr_trans k_6 (Fr_mono fs_X2_readDeed_2_90__X2_readDeed_2 k))
    · refine pk_if (fun _ => ?_) (fun _ => ?_)
      · refine pk_ob1 (w_f_X2_expect h_2 25) (fun h_5 k_7 => ?_)
        replace k_7 := Fr_trans k_2 (Fr_mono fs_X2_expect__X2_readDeed_2 k_7)
        refine pk_ob1 (w_f_X2_readNumber_2 h_5 2 0 3) (fun h_6 k_8 => ?_)
        replace k_8 := Fr_trans k_7 (Fr_mono fs_X2_readNumber_2__X2_readDeed_2 k_8)
        exact pk_mono (w_f_X2_readDeed_2_90 h_6) (fun _ k => Fr_trans k_8 (Fr_mono fs_X2_readDeed_2_90__X2_readDeed_2 k))
      · exact pk_mono (w_f_X2_readDeed_2_90 h_2) (fun _ k => Fr_trans k_2 (Fr_mono fs_X2_readDeed_2_90__X2_readDeed_2 k))
def S_read_2 : CL := [(0, 4, 4), (0, 5, 0), (0, 5, 1), (0, 11, 5), (1, 11, 2)]
theorem w_f_X2_readLevel_2_105 (kR_X2_readLevel : HS → Int32 → Int32 → Option HS) (hk_kR_X2_readLevel : ∀ (h : HS) (x0 : Int32) (x1 : Int32), pk (kR_X2_readLevel h x0 x1) (fun a => Fr S_read_2 h a)) (kR_X2_readAsk : HS → Int32 → Option HS) (hk_kR_X2_readAsk : ∀ (h : HS) (x0 : Int32), pk (kR_X2_readAsk h x0) (fun a => Fr S_read_2 h a)) (kR_X2_readOne : HS → Int32 → Option HS) (hk_kR_X2_readOne : ∀ (h : HS) (x0 : Int32), pk (kR_X2_readOne h x0) (fun a => Fr S_read_2 h a)) (h : HS) : pk (f_X2_readLevel_2_105 kR_X2_readLevel kR_X2_readAsk kR_X2_readOne h) (fun a => Fr S_read_2 h a) := by
  unfold f_X2_readLevel_2_105
  exact pk_some (Fr_refl _ h)
theorem fs_X7_kind__read_2 : ∀ x ∈ S_X7_kind, x ∈ S_read_2 := by decide
theorem fs_X7_advance__read_2 : ∀ x ∈ S_X7_advance, x ∈ S_read_2 := by decide
theorem fs_X6_addStep_2__read_2 : ∀ x ∈ S_X6_addStep_2, x ∈ S_read_2 := by decide
theorem w_f_X2_readLevel_2_42 (kR_X2_readLevel : HS → Int32 → Int32 → Option HS) (hk_kR_X2_readLevel : ∀ (h : HS) (x0 : Int32) (x1 : Int32), pk (kR_X2_readLevel h x0 x1) (fun a => Fr S_read_2 h a)) (kR_X2_readAsk : HS → Int32 → Option HS) (hk_kR_X2_readAsk : ∀ (h : HS) (x0 : Int32), pk (kR_X2_readAsk h x0) (fun a => Fr S_read_2 h a)) (kR_X2_readOne : HS → Int32 → Option HS) (hk_kR_X2_readOne : ∀ (h : HS) (x0 : Int32), pk (kR_X2_readOne h x0) (fun a => Fr S_read_2 h a)) : ∀ (n : Nat) (h : HS) (x3 : Int32) (x4 : Int32) (x5 : Int32), pk (f_X2_readLevel_2_42 kR_X2_readLevel kR_X2_readAsk kR_X2_readOne n h x3 x4 x5) (fun a => Fr S_read_2 h a) := by
  intro n
  induction n with
  | zero => intro h x3 x4 x5; exact pk_none
  | succ n ih =>
    intro h x3 x4 x5
    rw [f_X2_readLevel_2_42_s]
    refine pk_if (fun _ => ?_) (fun _ => ?_)
    · exact pk_mono (w_f_X2_readLevel_2_105 kR_X2_readLevel hk_kR_X2_readLevel kR_X2_readAsk hk_kR_X2_readAsk kR_X2_readOne hk_kR_X2_readOne h) (fun _ k => Fr_trans (Fr_refl _ h) k)
    · refine pk_if (fun _ => ?_) (fun _ => ?_)
      · refine pk_ob2 (w_f_X7_kind h) (fun r_8 h_8 k_1 => ?_)
        replace k_1 := Fr_trans (Fr_refl _ h) (Fr_mono fs_X7_kind__read_2 k_1)
        refine pk_obf (fun r_9 => ?_)
        refine pk_if (fun _ => ?_) (fun _ => ?_)
        · refine pk_ob2 (w_f_X7_kind h_8) (fun r_11 h_11 k_2 => ?_)
          replace k_2 := Fr_trans k_1 (Fr_mono fs_X7_kind__read_2 k_2)
          refine pk_ob1 (w_f_X7_advance h_11) (fun h_12 k_3 => ?_)
          replace k_3 := Fr_trans k_2 (Fr_mono fs_X7_advance__read_2 k_3)
          refine pk_ob1 (hk_kR_X2_readLevel h_12 (x3 + 1) x4) (fun h_13 k_4 => ?_)
          replace k_4 := Fr_trans k_3 k_4
          refine pk_ob1 (w_f_X6_addStep_2 h_13 (20000 + r_11)) (fun h_14 k_5 => ?_)
          replace k_5 := Fr_trans k_4 (Fr_mono fs_X6_addStep_2__read_2 k_5)
          exact pk_mono (ih h_14 x3 x4 (x5 + 1)) (fun _ k => Fr_trans k_5 k)
        · exact pk_mono (w_f_X2_readLevel_2_105 kR_X2_readLevel hk_kR_X2_readLevel kR_X2_readAsk hk_kR_X2_readAsk kR_X2_readOne hk_kR_X2_readOne h_8) (fun _ k => Fr_trans k_1 k)
      · exact pk_mono (w_f_X2_readLevel_2_105 kR_X2_readLevel hk_kR_X2_readLevel kR_X2_readAsk hk_kR_X2_readAsk kR_X2_readOne hk_kR_X2_readOne h) (fun _ k => Fr_trans (Fr_refl _ h) k)
theorem w_f_X2_readLevel_2_b (kR_X2_readLevel : HS → Int32 → Int32 → Option HS) (hk_kR_X2_readLevel : ∀ (h : HS) (x0 : Int32) (x1 : Int32), pk (kR_X2_readLevel h x0 x1) (fun a => Fr S_read_2 h a)) (kR_X2_readAsk : HS → Int32 → Option HS) (hk_kR_X2_readAsk : ∀ (h : HS) (x0 : Int32), pk (kR_X2_readAsk h x0) (fun a => Fr S_read_2 h a)) (kR_X2_readOne : HS → Int32 → Option HS) (hk_kR_X2_readOne : ∀ (h : HS) (x0 : Int32), pk (kR_X2_readOne h x0) (fun a => Fr S_read_2 h a)) (h : HS) (p1 : Int32) (p2 : Int32) : pk (f_X2_readLevel_2_b kR_X2_readLevel kR_X2_readAsk kR_X2_readOne h p1 p2) (fun a => Fr S_read_2 h a) := by
  unfold f_X2_readLevel_2_b
  refine pk_if (fun _ => ?_) (fun _ => ?_)
  · refine pk_ob1 (hk_kR_X2_readAsk h p2) (fun h_5 k_1 => ?_)
    replace k_1 := Fr_trans (Fr_refl _ h) k_1
    exact pk_some k_1
  · refine pk_if (fun _ => ?_) (fun _ => ?_)
    · refine pk_ob1 (hk_kR_X2_readOne h p2) (fun h_4 k_2 => ?_)
      replace k_2 := Fr_trans (Fr_refl _ h) k_2
      exact pk_some k_2
    · refine pk_ob1 (hk_kR_X2_readLevel h (p1 + 1) p2) (fun h_3 k_3 => ?_)
      replace k_3 := Fr_trans (Fr_refl _ h) k_3
      exact pk_mono (w_f_X2_readLevel_2_42 kR_X2_readLevel hk_kR_X2_readLevel kR_X2_readAsk hk_kR_X2_readAsk kR_X2_readOne hk_kR_X2_readOne 8589934592 h_3 p1 p2 0) (fun _ k => Fr_trans k_3 k)
theorem w_f_X2_readAsk_2_97 (kR_X2_readLevel : HS → Int32 → Int32 → Option HS) (hk_kR_X2_readLevel : ∀ (h : HS) (x0 : Int32) (x1 : Int32), pk (kR_X2_readLevel h x0 x1) (fun a => Fr S_read_2 h a)) (kR_X2_readAsk : HS → Int32 → Option HS) (hk_kR_X2_readAsk : ∀ (h : HS) (x0 : Int32), pk (kR_X2_readAsk h x0) (fun a => Fr S_read_2 h a)) (kR_X2_readOne : HS → Int32 → Option HS) (hk_kR_X2_readOne : ∀ (h : HS) (x0 : Int32), pk (kR_X2_readOne h x0) (fun a => Fr S_read_2 h a)) (h : HS) : pk (f_X2_readAsk_2_97 kR_X2_readLevel kR_X2_readAsk kR_X2_readOne h) (fun a => Fr S_read_2 h a) := by
  unfold f_X2_readAsk_2_97
  exact pk_some (Fr_refl _ h)
theorem w_f_X2_readAsk_2_68 (kR_X2_readLevel : HS → Int32 → Int32 → Option HS) (hk_kR_X2_readLevel : ∀ (h : HS) (x0 : Int32) (x1 : Int32), pk (kR_X2_readLevel h x0 x1) (fun a => Fr S_read_2 h a)) (kR_X2_readAsk : HS → Int32 → Option HS) (hk_kR_X2_readAsk : ∀ (h : HS) (x0 : Int32), pk (kR_X2_readAsk h x0) (fun a => Fr S_read_2 h a)) (kR_X2_readOne : HS → Int32 → Option HS) (hk_kR_X2_readOne : ∀ (h : HS) (x0 : Int32), pk (kR_X2_readOne h x0) (fun a => Fr S_read_2 h a)) (h : HS) (x3 : Int32) (x4 : Int32) : pk (f_X2_readAsk_2_68 kR_X2_readLevel kR_X2_readAsk kR_X2_readOne h x3 x4) (fun a => Fr S_read_2 h a) := by
  unfold f_X2_readAsk_2_68
  refine pk_if (fun _ => ?_) (fun _ => ?_)
  · refine pk_ob1 (w_f_X7_advance h) (fun h_13 k_1 => ?_)
    replace k_1 := Fr_trans (Fr_refl _ h) (Fr_mono fs_X7_advance__read_2 k_1)
    refine pk_ob1 (hk_kR_X2_readLevel h_13 3 x3) (fun h_14 k_2 => ?_)
    replace k_2 := Fr_trans k_1 k_2
    refine pk_ob1 (w_f_X6_addStep_2 h_14 (20000 + x4)) (fun h_15 k_3 => ?_)
    replace k_3 := Fr_trans k_2 (Fr_mono fs_X6_addStep_2__read_2 k_3)
    exact pk_mono (w_f_X2_readAsk_2_97 kR_X2_readLevel hk_kR_X2_readLevel kR_X2_readAsk hk_kR_X2_readAsk kR_X2_readOne hk_kR_X2_readOne h_15) (fun _ k => Fr_trans k_3 k)
  · exact pk_mono (w_f_X2_readAsk_2_97 kR_X2_readLevel hk_kR_X2_readLevel kR_X2_readAsk hk_kR_X2_readAsk kR_X2_readOne hk_kR_X2_readOne h) (fun _ k => Fr_trans (Fr_refl _ h) k)
theorem fs_X2_fail__read_2 : ∀ x ∈ S_X2_fail, x ∈ S_read_2 := by decide
theorem w_f_X2_readAsk_2_62 (kR_X2_readLevel : HS → Int32 → Int32 → Option HS) (hk_kR_X2_readLevel : ∀ (h : HS) (x0 : Int32) (x1 : Int32), pk (kR_X2_readLevel h x0 x1) (fun a => Fr S_read_2 h a)) (kR_X2_readAsk : HS → Int32 → Option HS) (hk_kR_X2_readAsk : ∀ (h : HS) (x0 : Int32), pk (kR_X2_readAsk h x0) (fun a => Fr S_read_2 h a)) (kR_X2_readOne : HS → Int32 → Option HS) (hk_kR_X2_readOne : ∀ (h : HS) (x0 : Int32), pk (kR_X2_readOne h x0) (fun a => Fr S_read_2 h a)) (h : HS) (x3 : Int32) (x4 : Int32) : pk (f_X2_readAsk_2_62 kR_X2_readLevel kR_X2_readAsk kR_X2_readOne h x3 x4) (fun a => Fr S_read_2 h a) := by
  unfold f_X2_readAsk_2_62
  refine pk_ob1 (w_f_X2_fail h 1) (fun h_11 k_1 => ?_)
  replace k_1 := Fr_trans (Fr_refl _ h) (Fr_mono fs_X2_fail__read_2 k_1)
  exact pk_mono (w_f_X2_readAsk_2_68 kR_X2_readLevel hk_kR_X2_readLevel kR_X2_readAsk hk_kR_X2_readAsk kR_X2_readOne hk_kR_X2_readOne h_11 x3 x4) (fun _ k => Fr_trans k_1 k)
theorem w_f_X2_readAsk_2_34 (kR_X2_readLevel : HS → Int32 → Int32 → Option HS) (hk_kR_X2_readLevel : ∀ (h : HS) (x0 : Int32) (x1 : Int32), pk (kR_X2_readLevel h x0 x1) (fun a => Fr S_read_2 h a)) (kR_X2_readAsk : HS → Int32 → Option HS) (hk_kR_X2_readAsk : ∀ (h : HS) (x0 : Int32), pk (kR_X2_readAsk h x0) (fun a => Fr S_read_2 h a)) (kR_X2_readOne : HS → Int32 → Option HS) (hk_kR_X2_readOne : ∀ (h : HS) (x0 : Int32), pk (kR_X2_readOne h x0) (fun a => Fr S_read_2 h a)) (h : HS) : pk (f_X2_readAsk_2_34 kR_X2_readLevel kR_X2_readAsk kR_X2_readOne h) (fun a => Fr S_read_2 h a) := by
  unfold f_X2_readAsk_2_34
  exact pk_some (Fr_refl _ h)
theorem fs_X2_opens__read_2 : ∀ x ∈ S_X2_opens, x ∈ S_read_2 := by decide
theorem w_f_X2_readAsk_2_b (kR_X2_readLevel : HS → Int32 → Int32 → Option HS) (hk_kR_X2_readLevel : ∀ (h : HS) (x0 : Int32) (x1 : Int32), pk (kR_X2_readLevel h x0 x1) (fun a => Fr S_read_2 h a)) (kR_X2_readAsk : HS → Int32 → Option HS) (hk_kR_X2_readAsk : ∀ (h : HS) (x0 : Int32), pk (kR_X2_readAsk h x0) (fun a => Fr S_read_2 h a)) (kR_X2_readOne : HS → Int32 → Option HS) (hk_kR_X2_readOne : ∀ (h : HS) (x0 : Int32), pk (kR_X2_readOne h x0) (fun a => Fr S_read_2 h a)) (h : HS) (p1 : Int32) : pk (f_X2_readAsk_2_b kR_X2_readLevel kR_X2_readAsk kR_X2_readOne h p1) (fun a => Fr S_read_2 h a) := by
  unfold f_X2_readAsk_2_b
  refine pk_ob2 (w_f_X7_kind h) (fun r_1 h_1 k_1 => ?_)
  replace k_1 := Fr_trans (Fr_refl _ h) (Fr_mono fs_X7_kind__read_2 k_1)
  refine pk_if (fun _ => ?_) (fun _ => ?_)
  · refine pk_ob2 (w_f_X2_opens h_1 p1) (fun r_7 h_7 k_2 => ?_)
    replace k_2 := Fr_trans k_1 (Fr_mono fs_X2_opens__read_2 k_2)
    refine pk_if (fun _ => ?_) (fun _ => ?_)
    · exact pk_mono (w_f_X2_readAsk_2_34 kR_X2_readLevel hk_kR_X2_readLevel kR_X2_readAsk hk_kR_X2_readAsk kR_X2_readOne hk_kR_X2_readOne h_7) (fun _ k => Fr_trans k_2 k)
    · refine pk_ob1 (hk_kR_X2_readAsk h_7 (p1 + 1)) (fun h_9 k_3 => ?_)
      replace k_3 := Fr_trans k_2 k_3
      refine pk_ob1 (w_f_X6_addStep_2 h_9 20028) (fun h_10 k_4 => ?_)
      replace k_4 := Fr_trans k_3 (Fr_mono fs_X6_addStep_2__read_2 k_4)
      exact pk_mono (w_f_X2_readAsk_2_34 kR_X2_readLevel hk_kR_X2_readLevel kR_X2_readAsk hk_kR_X2_readAsk kR_X2_readOne hk_kR_X2_readOne h_10) (fun _ k => Fr_trans k_4 k)
  · refine pk_ob1 (hk_kR_X2_readLevel h_1 3 p1) (fun h_3 k_5 => ?_)
    replace k_5 := Fr_trans k_1 k_5
    refine pk_ob2 (w_f_X7_kind h_3) (fun r_4 h_4 k_6 => ?_)
    replace k_6 := Fr_trans k_5 (Fr_mono fs_X7_kind__read_2 k_6)
    refine pk_if (fun _ => ?_) (fun _ => ?_)
    · exact pk_mono (w_f_X2_readAsk_2_62 kR_X2_readLevel hk_kR_X2_readLevel kR_X2_readAsk hk_kR_X2_readAsk kR_X2_readOne hk_kR_X2_readOne h_4 p1 r_4) (fun _ k => Fr_trans k_6 k)
    · refine pk_if (fun _ => ?_) (fun _ => ?_)
      · exact pk_mono (w_f_X2_readAsk_2_68 kR_X2_readLevel hk_kR_X2_readLevel kR_X2_readAsk hk_kR_X2_readAsk kR_X2_readOne hk_kR_X2_readOne h_4 p1 r_4) (fun _ k => Fr_trans k_6 k)
      · exact pk_mono (w_f_X2_readAsk_2_62 kR_X2_readLevel hk_kR_X2_readLevel kR_X2_readAsk hk_kR_X2_readAsk kR_X2_readOne hk_kR_X2_readOne h_4 p1 r_4) (fun _ k => Fr_trans k_6 k)
theorem w_f_X2_readOne_2_121 (kR_X2_readLevel : HS → Int32 → Int32 → Option HS) (hk_kR_X2_readLevel : ∀ (h : HS) (x0 : Int32) (x1 : Int32), pk (kR_X2_readLevel h x0 x1) (fun a => Fr S_read_2 h a)) (kR_X2_readAsk : HS → Int32 → Option HS) (hk_kR_X2_readAsk : ∀ (h : HS) (x0 : Int32), pk (kR_X2_readAsk h x0) (fun a => Fr S_read_2 h a)) (kR_X2_readOne : HS → Int32 → Option HS) (hk_kR_X2_readOne : ∀ (h : HS) (x0 : Int32), pk (kR_X2_readOne h x0) (fun a => Fr S_read_2 h a)) (h : HS) : pk (f_X2_readOne_2_121 kR_X2_readLevel kR_X2_readAsk kR_X2_readOne h) (fun a => Fr S_read_2 h a) := by
  unfold f_X2_readOne_2_121
  exact pk_some (Fr_refl _ h)
theorem fs_X2_expect__read_2 : ∀ x ∈ S_X2_expect, x ∈ S_read_2 := by decide
theorem w_f_X2_readOne_2_44 (kR_X2_readLevel : HS → Int32 → Int32 → Option HS) (hk_kR_X2_readLevel : ∀ (h : HS) (x0 : Int32) (x1 : Int32), pk (kR_X2_readLevel h x0 x1) (fun a => Fr S_read_2 h a)) (kR_X2_readAsk : HS → Int32 → Option HS) (hk_kR_X2_readAsk : ∀ (h : HS) (x0 : Int32), pk (kR_X2_readAsk h x0) (fun a => Fr S_read_2 h a)) (kR_X2_readOne : HS → Int32 → Option HS) (hk_kR_X2_readOne : ∀ (h : HS) (x0 : Int32), pk (kR_X2_readOne h x0) (fun a => Fr S_read_2 h a)) (h : HS) (x3 : Int32) (x4 : Int32) : pk (f_X2_readOne_2_44 kR_X2_readLevel kR_X2_readAsk kR_X2_readOne h x3 x4) (fun a => Fr S_read_2 h a) := by
  unfold f_X2_readOne_2_44
  refine pk_if (fun _ => ?_) (fun _ => ?_)
  · refine pk_ob2 (w_f_X2_opens h x3) (fun r_14 h_14 k_1 => ?_)
    replace k_1 := Fr_trans (Fr_refl _ h) (Fr_mono fs_X2_opens__read_2 k_1)
    refine pk_if (fun _ => ?_) (fun _ => ?_)
    · exact pk_mono (w_f_X2_readOne_2_121 kR_X2_readLevel hk_kR_X2_readLevel kR_X2_readAsk hk_kR_X2_readAsk kR_X2_readOne hk_kR_X2_readOne h_14) (fun _ k => Fr_trans k_1 k)
    · refine pk_ob1 (hk_kR_X2_readLevel h_14 3 (x3 + 1)) (fun h_16 k_2 => ?_)
      replace k_2 := Fr_trans k_1 k_2
      refine pk_ob1 (w_f_X2_expect h_16 14) (fun h_17 k_3 => ?_)
      replace k_3 := Fr_trans k_2 (Fr_mono fs_X2_expect__read_2 k_3)
      exact pk_mono (w_f_X2_readOne_2_121 kR_X2_readLevel hk_kR_X2_readLevel kR_X2_readAsk hk_kR_X2_readAsk kR_X2_readOne hk_kR_X2_readOne h_17) (fun _ k => Fr_trans k_3 k)
  · refine pk_if (fun _ => ?_) (fun _ => ?_)
    · refine pk_ob2 (w_f_X2_opens h x3) (fun r_10 h_10 k_4 => ?_)
      replace k_4 := Fr_trans (Fr_refl _ h) (Fr_mono fs_X2_opens__read_2 k_4)
      refine pk_if (fun _ => ?_) (fun _ => ?_)
      · exact pk_mono (w_f_X2_readOne_2_121 kR_X2_readLevel hk_kR_X2_readLevel kR_X2_readAsk hk_kR_X2_readAsk kR_X2_readOne hk_kR_X2_readOne h_10) (fun _ k => Fr_trans k_4 k)
      · refine pk_ob1 (hk_kR_X2_readOne h_10 (x3 + 1)) (fun h_12 k_5 => ?_)
        replace k_5 := Fr_trans k_4 k_5
        refine pk_ob1 (w_f_X6_addStep_2 h_12 20038) (fun h_13 k_6 => ?_)
        replace k_6 := Fr_trans k_5 (Fr_mono fs_X6_addStep_2__read_2 k_6)
        exact pk_mono (w_f_X2_readOne_2_121 kR_X2_readLevel hk_kR_X2_readLevel kR_X2_readAsk hk_kR_X2_readAsk kR_X2_readOne hk_kR_X2_readOne h_13) (fun _ k => Fr_trans k_6 k)
    · refine pk_ob1 (w_f_X2_fail h 1) (fun h_9 k_7 => ?_)
      replace k_7 := Fr_trans (Fr_refl _ h) (Fr_mono fs_X2_fail__read_2 k_7)
      exact pk_mono (w_f_X2_readOne_2_121 kR_X2_readLevel hk_kR_X2_readLevel kR_X2_readAsk hk_kR_X2_readAsk kR_X2_readOne hk_kR_X2_readOne h_9) (fun _ k => Fr_trans k_7 k)
theorem fs_X2_readValue_2__read_2 : ∀ x ∈ S_X2_readValue_2, x ∈ S_read_2 := by decide
theorem fs_X2_readName_2__read_2 : ∀ x ∈ S_X2_readName_2, x ∈ S_read_2 := by decide
theorem w_f_X2_readOne_2_b (kR_X2_readLevel : HS → Int32 → Int32 → Option HS) (hk_kR_X2_readLevel : ∀ (h : HS) (x0 : Int32) (x1 : Int32), pk (kR_X2_readLevel h x0 x1) (fun a => Fr S_read_2 h a)) (kR_X2_readAsk : HS → Int32 → Option HS) (hk_kR_X2_readAsk : ∀ (h : HS) (x0 : Int32), pk (kR_X2_readAsk h x0) (fun a => Fr S_read_2 h a)) (kR_X2_readOne : HS → Int32 → Option HS) (hk_kR_X2_readOne : ∀ (h : HS) (x0 : Int32), pk (kR_X2_readOne h x0) (fun a => Fr S_read_2 h a)) (h : HS) (p1 : Int32) : pk (f_X2_readOne_2_b kR_X2_readLevel kR_X2_readAsk kR_X2_readOne h p1) (fun a => Fr S_read_2 h a) := by
  unfold f_X2_readOne_2_b
  refine pk_ob2 (w_f_X7_kind h) (fun r_1 h_1 k_1 => ?_)
  replace k_1 := Fr_trans (Fr_refl _ h) (Fr_mono fs_X7_kind__read_2 k_1)
  refine pk_if (fun _ => ?_) (fun _ => ?_)
  · refine pk_ob1 (w_f_X2_readValue_2 h_1) (fun h_6 k_2 => ?_)
    replace k_2 := Fr_trans k_1 (Fr_mono fs_X2_readValue_2__read_2 k_2)
    exact pk_mono (w_f_X2_readOne_2_121 kR_X2_readLevel hk_kR_X2_readLevel kR_X2_readAsk hk_kR_X2_readAsk kR_X2_readOne hk_kR_X2_readOne h_6) (fun _ k => Fr_trans k_2 k)
  · refine pk_if (fun _ => ?_) (fun _ => ?_)
    · exact pk_mono (w_f_X2_readOne_2_44 kR_X2_readLevel hk_kR_X2_readLevel kR_X2_readAsk hk_kR_X2_readAsk kR_X2_readOne hk_kR_X2_readOne h_1 p1 r_1) (fun _ k => Fr_trans k_1 k)
    · refine pk_if (fun _ => ?_) (fun _ => ?_)
      · exact pk_mono (w_f_X2_readOne_2_44 kR_X2_readLevel hk_kR_X2_readLevel kR_X2_readAsk hk_kR_X2_readAsk kR_X2_readOne hk_kR_X2_readOne h_1 p1 r_1) (fun _ k => Fr_trans k_1 k)
      · refine pk_ob1 (w_f_X2_readName_2 h_1) (fun h_5 k_3 => ?_)
        replace k_3 := Fr_trans k_1 (Fr_mono fs_X2_readName_2__read_2 k_3)
        exact pk_mono (w_f_X2_readOne_2_121 kR_X2_readLevel hk_kR_X2_readLevel kR_X2_readAsk hk_kR_X2_readAsk kR_X2_readOne hk_kR_X2_readOne h_5) (fun _ k => Fr_trans k_3 k)
theorem w_G_read_2 : ∀ (n t : Nat) (h : HS) (p1 p2 : Int32), pk (G_read_2 n t h p1 p2) (fun a => Fr S_read_2 h a) := by
  intro n
  induction n with
  | zero => intro t h p1 p2; exact (by simp [G_read_2]; exact pk_none)
  | succ n ih =>
    intro t h p1 p2
    match t with
    | 0 => exact w_f_X2_readLevel_2_b (fun h p1 p2 => G_read_2 n 0 h p1 p2) (fun h p1 p2 => ih 0 h p1 p2) (fun h p1 => G_read_2 n 1 h p1 0) (fun h p1 => ih 1 h p1 0) (fun h p1 => G_read_2 n 2 h p1 0) (fun h p1 => ih 2 h p1 0) h p1 p2
    | 1 => exact w_f_X2_readAsk_2_b (fun h p1 p2 => G_read_2 n 0 h p1 p2) (fun h p1 p2 => ih 0 h p1 p2) (fun h p1 => G_read_2 n 1 h p1 0) (fun h p1 => ih 1 h p1 0) (fun h p1 => G_read_2 n 2 h p1 0) (fun h p1 => ih 2 h p1 0) h p1
    | t + 2 => exact w_f_X2_readOne_2_b (fun h p1 p2 => G_read_2 n 0 h p1 p2) (fun h p1 p2 => ih 0 h p1 p2) (fun h p1 => G_read_2 n 1 h p1 0) (fun h p1 => ih 1 h p1 0) (fun h p1 => G_read_2 n 2 h p1 0) (fun h p1 => ih 2 h p1 0) h p1
def S_X2_readClause_2_158 : CL := []
theorem w_f_X2_readClause_2_158 (h : HS) : pk (f_X2_readClause_2_158 h) (fun a => Fr S_X2_readClause_2_158 h a) := by
  unfold f_X2_readClause_2_158
  exact pk_some (Fr_refl _ h)
def S_X2_readClause_2_25 : CL := [(0, 5, 0), (0, 5, 1)]
theorem fs_X2_fail__X2_readClause_2_25 : ∀ x ∈ S_X2_fail, x ∈ S_X2_readClause_2_25 := by decide
theorem fs_X2_readClause_2_158__X2_readClause_2_25 : ∀ x ∈ S_X2_readClause_2_158, x ∈ S_X2_readClause_2_25 := by decide
theorem w_f_X2_readClause_2_25 (h : HS) : pk (f_X2_readClause_2_25 h) (fun a => Fr S_X2_readClause_2_25 h a) := by
  unfold f_X2_readClause_2_25
  refine pk_ob1 (w_f_X2_fail h 1) (fun h_15 k_1 => ?_)
  replace k_1 := Fr_trans (Fr_refl _ h) (Fr_mono fs_X2_fail__X2_readClause_2_25 k_1)
  exact pk_mono (w_f_X2_readClause_2_158 h_15) (fun _ k => Fr_trans k_1 (Fr_mono fs_X2_readClause_2_158__X2_readClause_2_25 k))
def S_X2_readClause_2_141 : CL := [(0, 4, 4), (0, 5, 0), (0, 5, 1), (0, 11, 1)]
theorem fm_X2_readClause_2_141_0_11_1 : (0, 11, 1) ∈ S_X2_readClause_2_141 := by decide
theorem fs_X2_expect__X2_readClause_2_141 : ∀ x ∈ S_X2_expect, x ∈ S_X2_readClause_2_141 := by decide
theorem fs_X2_readClause_2_158__X2_readClause_2_141 : ∀ x ∈ S_X2_readClause_2_158, x ∈ S_X2_readClause_2_141 := by decide
theorem w_f_X2_readClause_2_141 (h : HS) : pk (f_X2_readClause_2_141 h) (fun a => Fr S_X2_readClause_2_141 h a) := by
  unfold f_X2_readClause_2_141
  refine pk_ob1 (w_f_X2_expect h 15) (fun h_16 k_1 => ?_)
  replace k_1 := Fr_trans (Fr_refl _ h) (Fr_mono fs_X2_expect__X2_readClause_2_141 k_1)
  exact pk_mono (w_f_X2_readClause_2_158 (sI h_16 11 1 ((eI h_16 11 1) + 1))) (fun _ k => Fr_trans (Fr_sI fm_X2_readClause_2_141_0_11_1 k_1) (Fr_mono fs_X2_readClause_2_158__X2_readClause_2_141 k))
def S_X2_readClause_2_119 : CL := [(0, 4, 4), (0, 5, 0), (0, 5, 1), (0, 11, 1), (0, 11, 5), (1, 11, 2), (1, 11, 4)]
theorem fs_read_2__X2_readClause_2_119 : ∀ x ∈ S_read_2, x ∈ S_X2_readClause_2_119 := by decide
theorem fs_X6_closeLaw_2__X2_readClause_2_119 : ∀ x ∈ S_X6_closeLaw_2, x ∈ S_X2_readClause_2_119 := by decide
theorem fs_X2_readClause_2_141__X2_readClause_2_119 : ∀ x ∈ S_X2_readClause_2_141, x ∈ S_X2_readClause_2_119 := by decide
theorem w_f_X2_readClause_2_119 (h : HS) (y0 : Int32) : pk (f_X2_readClause_2_119 h y0) (fun a => Fr S_X2_readClause_2_119 h a) := by
  unfold f_X2_readClause_2_119
  refine pk_ob1 (w_G_read_2 200 0 h y0 0) (fun h_17 k_1 => ?_)
  replace k_1 := Fr_trans (Fr_refl _ h) (Fr_mono fs_read_2__X2_readClause_2_119 k_1)
  refine pk_ob1 (w_f_X6_closeLaw_2 h_17 (eI h_17 5 2)) (fun h_18 k_2 => ?_)
  replace k_2 := Fr_trans k_1 (Fr_mono fs_X6_closeLaw_2__X2_readClause_2_119 k_2)
  exact pk_mono (w_f_X2_readClause_2_141 h_18) (fun _ k => Fr_trans k_2 (Fr_mono fs_X2_readClause_2_141__X2_readClause_2_119 k))
def S_X2_readClause_2 : CL := [(0, 4, 4), (0, 5, 0), (0, 5, 1), (0, 5, 2), (0, 11, 1), (0, 11, 5), (1, 11, 0), (1, 11, 2), (1, 11, 3), (1, 11, 4)]
theorem fm_X2_readClause_2_0_5_2 : (0, 5, 2) ∈ S_X2_readClause_2 := by decide
theorem fs_X7_kind__X2_readClause_2 : ∀ x ∈ S_X7_kind, x ∈ S_X2_readClause_2 := by decide
theorem fs_X2_readClause_2_25__X2_readClause_2 : ∀ x ∈ S_X2_readClause_2_25, x ∈ S_X2_readClause_2 := by decide
theorem fs_X6_hasLaw_2__X2_readClause_2 : ∀ x ∈ S_X6_hasLaw_2, x ∈ S_X2_readClause_2 := by decide
theorem fs_X6_setClause_2__X2_readClause_2 : ∀ x ∈ S_X6_setClause_2, x ∈ S_X2_readClause_2 := by decide
theorem fs_X7_advance__X2_readClause_2 : ∀ x ∈ S_X7_advance, x ∈ S_X2_readClause_2 := by decide
theorem fs_X2_readDeed_2__X2_readClause_2 : ∀ x ∈ S_X2_readDeed_2, x ∈ S_X2_readClause_2 := by decide
theorem fs_X2_readClause_2_141__X2_readClause_2 : ∀ x ∈ S_X2_readClause_2_141, x ∈ S_X2_readClause_2 := by decide
theorem fs_X6_beginLaw_2__X2_readClause_2 : ∀ x ∈ S_X6_beginLaw_2, x ∈ S_X2_readClause_2 := by decide
theorem fs_X2_readClause_2_119__X2_readClause_2 : ∀ x ∈ S_X2_readClause_2_119, x ∈ S_X2_readClause_2 := by decide
theorem fs_X2_fail__X2_readClause_2 : ∀ x ∈ S_X2_fail, x ∈ S_X2_readClause_2 := by decide
theorem fs_X2_readClause_2_158__X2_readClause_2 : ∀ x ∈ S_X2_readClause_2_158, x ∈ S_X2_readClause_2 := by decide
theorem w_f_X2_readClause_2 (h : HS) : pk (f_X2_readClause_2 h) (fun a => Fr S_X2_readClause_2 h a) := by
  unfold f_X2_readClause_2
  refine pk_ob2 (w_f_X7_kind h) (fun r_1 h_1 k_1 => ?_)
  replace k_1 := Fr_trans (Fr_refl _ h) (Fr_mono fs_X7_kind__X2_readClause_2 k_1)
  refine pk_if (fun _ => ?_) (fun _ => ?_)
  · exact pk_mono (w_f_X2_readClause_2_25 (sI h_1 5 2 (r_1 - 16))) (fun _ k => Fr_trans (Fr_sI fm_X2_readClause_2_0_5_2 k_1) (Fr_mono fs_X2_readClause_2_25__X2_readClause_2 k))
  · refine pk_if (fun _ => ?_) (fun _ => ?_)
    · refine pk_ob2 (w_f_X6_hasLaw_2 (sI h_1 5 2 (r_1 - 16)) (r_1 - 16)) (fun r_4 h_4 k_2 => ?_)
      replace k_2 := Fr_trans (Fr_sI fm_X2_readClause_2_0_5_2 k_1) (Fr_mono fs_X6_hasLaw_2__X2_readClause_2 k_2)
      refine pk_if (fun _ => ?_) (fun _ => ?_)
      · refine pk_if (fun _ => ?_) (fun _ => ?_)
        · refine pk_ob1 (w_f_X6_setClause_2 h_4 (eI h_4 11 1) 0 r_1) (fun h_7 k_3 => ?_)
          replace k_3 := Fr_trans k_2 (Fr_mono fs_X6_setClause_2__X2_readClause_2 k_3)
          refine pk_ob1 (w_f_X7_advance h_7) (fun h_8 k_4 => ?_)
          replace k_4 := Fr_trans k_3 (Fr_mono fs_X7_advance__X2_readClause_2 k_4)
          refine pk_if (fun _ => ?_) (fun _ => ?_)
          · refine pk_ob1 (w_f_X2_readDeed_2 h_8 r_1) (fun h_10 k_5 => ?_)
            replace k_5 := Fr_trans k_4 (Fr_mono fs_X2_readDeed_2__X2_readClause_2 k_5)
            exact pk_mono (w_f_X2_readClause_2_141 h_10) (fun _ k => Fr_trans k_5 (Fr_mono fs_X2_readClause_2_141__X2_readClause_2 k))
          · refine pk_ob1 (w_f_X6_beginLaw_2 h_8 (eI h_8 5 2)) (fun h_11 k_6 => ?_)
            replace k_6 := Fr_trans k_4 (Fr_mono fs_X6_beginLaw_2__X2_readClause_2 k_6)
            refine pk_if (fun _ => ?_) (fun _ => ?_)
            · exact pk_mono (w_f_X2_readClause_2_119 h_11 0) (fun _ k => Fr_trans k_6 (Fr_mono fs_X2_readClause_2_119__X2_readClause_2 k))
            · exact pk_mono (w_f_X2_readClause_2_119 h_11 3) (fun _ k => Fr_trans k_6 (Fr_mono fs_X2_readClause_2_119__X2_readClause_2 k))
        · refine pk_ob1 (w_f_X2_fail h_4 6) (fun h_13 k_7 => ?_)
          replace k_7 := Fr_trans k_2 (Fr_mono fs_X2_fail__X2_readClause_2 k_7)
          exact pk_mono (w_f_X2_readClause_2_158 h_13) (fun _ k => Fr_trans k_7 (Fr_mono fs_X2_readClause_2_158__X2_readClause_2 k))
      · refine pk_ob1 (w_f_X2_fail h_4 4) (fun h_14 k_8 => ?_)
        replace k_8 := Fr_trans k_2 (Fr_mono fs_X2_fail__X2_readClause_2 k_8)
        exact pk_mono (w_f_X2_readClause_2_158 h_14) (fun _ k => Fr_trans k_8 (Fr_mono fs_X2_readClause_2_158__X2_readClause_2 k))
    · exact pk_mono (w_f_X2_readClause_2_25 (sI h_1 5 2 (r_1 - 16))) (fun _ k => Fr_trans (Fr_sI fm_X2_readClause_2_0_5_2 k_1) (Fr_mono fs_X2_readClause_2_25__X2_readClause_2 k))
def S_X2_parse_2_48 : CL := []
theorem w_f_X2_parse_2_48 (h : HS) : pk (f_X2_parse_2_48 h) (fun a => Fr S_X2_parse_2_48 h a) := by
  unfold f_X2_parse_2_48
  exact pk_some (Fr_refl _ h)
def S_X2_parse_2_16 : CL := [(0, 4, 4), (0, 5, 0), (0, 5, 1), (0, 5, 2), (0, 11, 1), (0, 11, 5), (1, 11, 0), (1, 11, 2), (1, 11, 3), (1, 11, 4)]
theorem fs_X2_parse_2_48__X2_parse_2_16 : ∀ x ∈ S_X2_parse_2_48, x ∈ S_X2_parse_2_16 := by decide
theorem fs_X7_kind__X2_parse_2_16 : ∀ x ∈ S_X7_kind, x ∈ S_X2_parse_2_16 := by decide
theorem fs_X2_readClause_2__X2_parse_2_16 : ∀ x ∈ S_X2_readClause_2, x ∈ S_X2_parse_2_16 := by decide
theorem w_f_X2_parse_2_16  : ∀ (n : Nat) (h : HS) (x3 : Int32), pk (f_X2_parse_2_16  n h x3) (fun a => Fr S_X2_parse_2_16 h a) := by
  intro n
  induction n with
  | zero => intro h x3; exact pk_none
  | succ n ih =>
    intro h x3
    rw [f_X2_parse_2_16_s]
    refine pk_if (fun _ => ?_) (fun _ => ?_)
    · exact pk_mono (w_f_X2_parse_2_48 h) (fun _ k => Fr_trans (Fr_refl _ h) (Fr_mono fs_X2_parse_2_48__X2_parse_2_16 k))
    · refine pk_if (fun _ => ?_) (fun _ => ?_)
      · refine pk_ob2 (w_f_X7_kind h) (fun r_4 h_4 k_1 => ?_)
        replace k_1 := Fr_trans (Fr_refl _ h) (Fr_mono fs_X7_kind__X2_parse_2_16 k_1)
        refine pk_if (fun _ => ?_) (fun _ => ?_)
        · exact pk_mono (w_f_X2_parse_2_48 h_4) (fun _ k => Fr_trans k_1 (Fr_mono fs_X2_parse_2_48__X2_parse_2_16 k))
        · refine pk_ob1 (w_f_X2_readClause_2 h_4) (fun h_6 k_2 => ?_)
          replace k_2 := Fr_trans k_1 (Fr_mono fs_X2_readClause_2__X2_parse_2_16 k_2)
          exact pk_mono (ih h_6 (x3 + 1)) (fun _ k => Fr_trans k_2 k)
      · exact pk_mono (w_f_X2_parse_2_48 h) (fun _ k => Fr_trans (Fr_refl _ h) (Fr_mono fs_X2_parse_2_48__X2_parse_2_16 k))
def S_X2_parse_2 : CL := [(0, 4, 4), (0, 5, 0), (0, 5, 1), (0, 5, 2), (0, 11, 1), (0, 11, 5), (1, 11, 0), (1, 11, 2), (1, 11, 3), (1, 11, 4)]
theorem fm_X2_parse_2_0_5_1 : (0, 5, 1) ∈ S_X2_parse_2 := by decide
theorem fm_X2_parse_2_0_5_0 : (0, 5, 0) ∈ S_X2_parse_2 := by decide
theorem fs_X6_clear_2__X2_parse_2 : ∀ x ∈ S_X6_clear_2, x ∈ S_X2_parse_2 := by decide
theorem fs_X2_parse_2_16__X2_parse_2 : ∀ x ∈ S_X2_parse_2_16, x ∈ S_X2_parse_2 := by decide
theorem w_f_X2_parse_2 (h : HS) : pk (f_X2_parse_2 h) (fun a => Fr S_X2_parse_2 h a) := by
  unfold f_X2_parse_2
  refine pk_ob1 (w_f_X6_clear_2 (sI (sI h 5 0 0) 5 1 (-1))) (fun h_1 k_1 => ?_)
  replace k_1 := Fr_trans (Fr_sI fm_X2_parse_2_0_5_1 (Fr_sI fm_X2_parse_2_0_5_0 (Fr_refl _ h))) (Fr_mono fs_X6_clear_2__X2_parse_2 k_1)
  exact pk_mono (w_f_X2_parse_2_16 8589934592 h_1 0) (fun _ k => Fr_trans k_1 (Fr_mono fs_X2_parse_2_16__X2_parse_2 k))
def S_X2_readValue_3 : CL := [(0, 4, 4), (0, 5, 0), (0, 5, 1), (0, 12, 5), (1, 12, 2)]
theorem fs_X7_value__X2_readValue_3 : ∀ x ∈ S_X7_value, x ∈ S_X2_readValue_3 := by decide
theorem fs_X6_addStep_3__X2_readValue_3 : ∀ x ∈ S_X6_addStep_3, x ∈ S_X2_readValue_3 := by decide
theorem fs_X7_advance__X2_readValue_3 : ∀ x ∈ S_X7_advance, x ∈ S_X2_readValue_3 := by decide
theorem fs_X2_fail__X2_readValue_3 : ∀ x ∈ S_X2_fail, x ∈ S_X2_readValue_3 := by decide
theorem w_f_X2_readValue_3 (h : HS) : pk (f_X2_readValue_3 h) (fun a => Fr S_X2_readValue_3 h a) := by
  unfold f_X2_readValue_3
  refine pk_ob2 (w_f_X7_value h) (fun r_1 h_1 k_1 => ?_)
  replace k_1 := Fr_trans (Fr_refl _ h) (Fr_mono fs_X7_value__X2_readValue_3 k_1)
  refine pk_if (fun _ => ?_) (fun _ => ?_)
  · refine pk_ob2 (w_f_X7_value h_1) (fun r_3 h_3 k_2 => ?_)
    replace k_2 := Fr_trans k_1 (Fr_mono fs_X7_value__X2_readValue_3 k_2)
    refine pk_ob1 (w_f_X6_addStep_3 h_3 r_3) (fun h_4 k_3 => ?_)
    replace k_3 := Fr_trans k_2 (Fr_mono fs_X6_addStep_3__X2_readValue_3 k_3)
    refine pk_ob1 (w_f_X7_advance h_4) (fun h_5 k_4 => ?_)
    replace k_4 := Fr_trans k_3 (Fr_mono fs_X7_advance__X2_readValue_3 k_4)
    exact pk_some k_4
  · refine pk_ob1 (w_f_X2_fail h_1 2) (fun h_6 k_5 => ?_)
    replace k_5 := Fr_trans k_1 (Fr_mono fs_X2_fail__X2_readValue_3 k_5)
    exact pk_some k_5
def S_X2_readName_3_31 : CL := [(0, 4, 4), (0, 12, 5), (1, 12, 2)]
theorem fs_X7_kind__X2_readName_3_31 : ∀ x ∈ S_X7_kind, x ∈ S_X2_readName_3_31 := by decide
theorem fs_X6_addStep_3__X2_readName_3_31 : ∀ x ∈ S_X6_addStep_3, x ∈ S_X2_readName_3_31 := by decide
theorem fs_X7_advance__X2_readName_3_31 : ∀ x ∈ S_X7_advance, x ∈ S_X2_readName_3_31 := by decide
theorem w_f_X2_readName_3_31 (h : HS) : pk (f_X2_readName_3_31 h) (fun a => Fr S_X2_readName_3_31 h a) := by
  unfold f_X2_readName_3_31
  refine pk_ob2 (w_f_X7_kind h) (fun r_6 h_6 k_1 => ?_)
  replace k_1 := Fr_trans (Fr_refl _ h) (Fr_mono fs_X7_kind__X2_readName_3_31 k_1)
  refine pk_ob1 (w_f_X6_addStep_3 h_6 ((10000 + r_6) - 29)) (fun h_7 k_2 => ?_)
  replace k_2 := Fr_trans k_1 (Fr_mono fs_X6_addStep_3__X2_readName_3_31 k_2)
  refine pk_ob1 (w_f_X7_advance h_7) (fun h_8 k_3 => ?_)
  replace k_3 := Fr_trans k_2 (Fr_mono fs_X7_advance__X2_readName_3_31 k_3)
  exact pk_some k_3
def S_X2_readName_3 : CL := [(0, 4, 4), (0, 5, 0), (0, 5, 1), (0, 12, 5), (1, 12, 2)]
theorem fs_X7_kind__X2_readName_3 : ∀ x ∈ S_X7_kind, x ∈ S_X2_readName_3 := by decide
theorem fs_X2_readName_3_31__X2_readName_3 : ∀ x ∈ S_X2_readName_3_31, x ∈ S_X2_readName_3 := by decide
theorem fs_X2_fail__X2_readName_3 : ∀ x ∈ S_X2_fail, x ∈ S_X2_readName_3 := by decide
theorem w_f_X2_readName_3 (h : HS) : pk (f_X2_readName_3 h) (fun a => Fr S_X2_readName_3 h a) := by
  unfold f_X2_readName_3
  refine pk_ob2 (w_f_X7_kind h) (fun r_1 h_1 k_1 => ?_)
  replace k_1 := Fr_trans (Fr_refl _ h) (Fr_mono fs_X7_kind__X2_readName_3 k_1)
  refine pk_if (fun _ => ?_) (fun _ => ?_)
  · exact pk_mono (w_f_X2_readName_3_31 h_1) (fun _ k => Fr_trans k_1 (Fr_mono fs_X2_readName_3_31__X2_readName_3 k))
  · refine pk_if (fun _ => ?_) (fun _ => ?_)
    · exact pk_mono (w_f_X2_readName_3_31 h_1) (fun _ k => Fr_trans k_1 (Fr_mono fs_X2_readName_3_31__X2_readName_3 k))
    · refine pk_if (fun _ => ?_) (fun _ => ?_)
      · exact pk_mono (w_f_X2_readName_3_31 h_1) (fun _ k => Fr_trans k_1 (Fr_mono fs_X2_readName_3_31__X2_readName_3 k))
      · refine pk_ob1 (w_f_X2_fail h_1 5) (fun h_5 k_2 => ?_)
        replace k_2 := Fr_trans k_1 (Fr_mono fs_X2_fail__X2_readName_3 k_2)
        exact pk_some k_2
def S_X2_readNumber_3_69 : CL := []
theorem w_f_X2_readNumber_3_69 (h : HS) : pk (f_X2_readNumber_3_69 h) (fun a => Fr S_X2_readNumber_3_69 h a) := by
  unfold f_X2_readNumber_3_69
  exact pk_some (Fr_refl _ h)
def S_X2_readNumber_3_43 : CL := [(0, 5, 0), (0, 5, 1)]
theorem fs_X2_fail__X2_readNumber_3_43 : ∀ x ∈ S_X2_fail, x ∈ S_X2_readNumber_3_43 := by decide
theorem fs_X2_readNumber_3_69__X2_readNumber_3_43 : ∀ x ∈ S_X2_readNumber_3_69, x ∈ S_X2_readNumber_3_43 := by decide
theorem w_f_X2_readNumber_3_43 (h : HS) : pk (f_X2_readNumber_3_43 h) (fun a => Fr S_X2_readNumber_3_43 h a) := by
  unfold f_X2_readNumber_3_43
  refine pk_ob1 (w_f_X2_fail h 2) (fun h_12 k_1 => ?_)
  replace k_1 := Fr_trans (Fr_refl _ h) (Fr_mono fs_X2_fail__X2_readNumber_3_43 k_1)
  exact pk_mono (w_f_X2_readNumber_3_69 h_12) (fun _ k => Fr_trans k_1 (Fr_mono fs_X2_readNumber_3_69__X2_readNumber_3_43 k))
def S_X2_readNumber_3 : CL := [(0, 4, 4), (0, 5, 0), (0, 5, 1), (1, 12, 0)]
theorem fs_X7_kind__X2_readNumber_3 : ∀ x ∈ S_X7_kind, x ∈ S_X2_readNumber_3 := by decide
theorem fs_X7_value__X2_readNumber_3 : ∀ x ∈ S_X7_value, x ∈ S_X2_readNumber_3 := by decide
theorem fs_X2_readNumber_3_43__X2_readNumber_3 : ∀ x ∈ S_X2_readNumber_3_43, x ∈ S_X2_readNumber_3 := by decide
theorem fs_X6_setClause_3__X2_readNumber_3 : ∀ x ∈ S_X6_setClause_3, x ∈ S_X2_readNumber_3 := by decide
theorem fs_X7_advance__X2_readNumber_3 : ∀ x ∈ S_X7_advance, x ∈ S_X2_readNumber_3 := by decide
theorem fs_X2_readNumber_3_69__X2_readNumber_3 : ∀ x ∈ S_X2_readNumber_3_69, x ∈ S_X2_readNumber_3 := by decide
theorem fs_X2_fail__X2_readNumber_3 : ∀ x ∈ S_X2_fail, x ∈ S_X2_readNumber_3 := by decide
theorem w_f_X2_readNumber_3 (h : HS) (p1 : Int32) (p2 : Int32) (p3 : Int32) : pk (f_X2_readNumber_3 h p1 p2 p3) (fun a => Fr S_X2_readNumber_3 h a) := by
  unfold f_X2_readNumber_3
  refine pk_if (fun _ => ?_) (fun _ => ?_)
  · refine pk_ob2 (w_f_X7_kind h) (fun r_2 h_2 k_1 => ?_)
    replace k_1 := Fr_trans (Fr_refl _ h) (Fr_mono fs_X7_kind__X2_readNumber_3 k_1)
    refine pk_if (fun _ => ?_) (fun _ => ?_)
    · refine pk_ob2 (w_f_X7_value h_2) (fun r_4 h_4 k_2 => ?_)
      replace k_2 := Fr_trans k_1 (Fr_mono fs_X7_value__X2_readNumber_3 k_2)
      refine pk_if (fun _ => ?_) (fun _ => ?_)
      · exact pk_mono (w_f_X2_readNumber_3_43 h_4) (fun _ k => Fr_trans k_2 (Fr_mono fs_X2_readNumber_3_43__X2_readNumber_3 k))
      · refine pk_ob2 (w_f_X7_value h_4) (fun r_6 h_6 k_3 => ?_)
        replace k_3 := Fr_trans k_2 (Fr_mono fs_X7_value__X2_readNumber_3 k_3)
        refine pk_if (fun _ => ?_) (fun _ => ?_)
        · refine pk_ob2 (w_f_X7_value h_6) (fun r_8 h_8 k_4 => ?_)
          replace k_4 := Fr_trans k_3 (Fr_mono fs_X7_value__X2_readNumber_3 k_4)
          refine pk_ob1 (w_f_X6_setClause_3 h_8 (eI h_6 12 1) p1 r_8) (fun h_9 k_5 => ?_)
          replace k_5 := Fr_trans k_4 (Fr_mono fs_X6_setClause_3__X2_readNumber_3 k_5)
          refine pk_ob1 (w_f_X7_advance h_9) (fun h_10 k_6 => ?_)
          replace k_6 := Fr_trans k_5 (Fr_mono fs_X7_advance__X2_readNumber_3 k_6)
          exact pk_mono (w_f_X2_readNumber_3_69 h_10) (fun _ k => Fr_trans k_6 (Fr_mono fs_X2_readNumber_3_69__X2_readNumber_3 k))
        · exact pk_mono (w_f_X2_readNumber_3_43 h_6) (fun _ k => Fr_trans k_3 (Fr_mono fs_X2_readNumber_3_43__X2_readNumber_3 k))
    · refine pk_ob1 (w_f_X2_fail h_2 1) (fun h_11 k_7 => ?_)
      replace k_7 := Fr_trans k_1 (Fr_mono fs_X2_fail__X2_readNumber_3 k_7)
      exact pk_mono (w_f_X2_readNumber_3_69 h_11) (fun _ k => Fr_trans k_7 (Fr_mono fs_X2_readNumber_3_69__X2_readNumber_3 k))
  · exact pk_some (Fr_refl _ h)
def S_X2_readDeed_3_90 : CL := []
theorem w_f_X2_readDeed_3_90 (h : HS) : pk (f_X2_readDeed_3_90 h) (fun a => Fr S_X2_readDeed_3_90 h a) := by
  unfold f_X2_readDeed_3_90
  exact pk_some (Fr_refl _ h)
def S_X2_readDeed_3 : CL := [(0, 4, 4), (0, 5, 0), (0, 5, 1), (1, 12, 0)]
theorem fs_X2_readNumber_3__X2_readDeed_3 : ∀ x ∈ S_X2_readNumber_3, x ∈ S_X2_readDeed_3 := by decide
theorem fs_X2_expect__X2_readDeed_3 : ∀ x ∈ S_X2_expect, x ∈ S_X2_readDeed_3 := by decide
theorem fs_X2_readDeed_3_90__X2_readDeed_3 : ∀ x ∈ S_X2_readDeed_3_90, x ∈ S_X2_readDeed_3 := by decide
theorem w_f_X2_readDeed_3 (h : HS) (p1 : Int32) : pk (f_X2_readDeed_3 h p1) (fun a => Fr S_X2_readDeed_3 h a) := by
  unfold f_X2_readDeed_3
  refine pk_if (fun _ => ?_) (fun _ => ?_)
  · refine pk_ob1 (w_f_X2_readNumber_3 h 1 1 99) (fun h_11 k_1 => ?_)
    replace k_1 := Fr_trans (Fr_refl _ h) (Fr_mono fs_X2_readNumber_3__X2_readDeed_3 k_1)
    exact pk_some k_1
  · refine pk_ob1 (w_f_X2_readNumber_3 h 1 0 9) (fun h_2 k_2 => ?_)
    replace k_2 := Fr_trans (Fr_refl _ h) (Fr_mono fs_X2_readNumber_3__X2_readDeed_3 k_2)
    refine pk_if (fun _ => ?_) (fun _ => ?_)
    · refine pk_ob1 (w_f_X2_expect h_2 24) (fun h_7 k_3 => ?_)
      replace k_3 := Fr_trans k_2 (Fr_mono fs_X2_expect__X2_readDeed_3 k_3)
      refine pk_ob1 (w_f_X2_readNumber_3 h_7 2 0 5) (fun h_8 k_4 => ?_)
      replace k_4 := Fr_trans k_3 (Fr_mono fs_X2_readNumber_3__X2_readDeed_3 k_4)
      refine pk_ob1 (w_f_X2_expect h_8 33) (fun h_9 k_5 => ?_)
      replace k_5 := Fr_trans k_4 (Fr_mono fs_X2_expect__X2_readDeed_3 k_5)
      refine pk_ob1 (w_f_X2_readNumber_3 h_9 3 0 2) (fun h_10 k_6 => ?_)
      replace k_6 := Fr_trans k_5 (Fr_mono fs_X2_readNumber_3__X2_readDeed_3 k_6)
      exact pk_mono (w_f_X2_readDeed_3_90 h_10) (fun _ k => Fr_trans k_6 (Fr_mono fs_X2_readDeed_3_90__X2_readDeed_3 k))
    · refine pk_if (fun _ => ?_) (fun _ => ?_)
      · refine pk_ob1 (w_f_X2_expect h_2 25) (fun h_5 k_7 => ?_)
        replace k_7 := Fr_trans k_2 (Fr_mono fs_X2_expect__X2_readDeed_3 k_7)
        refine pk_ob1 (w_f_X2_readNumber_3 h_5 2 0 3) (fun h_6 k_8 => ?_)
        replace k_8 := Fr_trans k_7 (Fr_mono fs_X2_readNumber_3__X2_readDeed_3 k_8)
        exact pk_mono (w_f_X2_readDeed_3_90 h_6) (fun _ k => Fr_trans k_8 (Fr_mono fs_X2_readDeed_3_90__X2_readDeed_3 k))
      · exact pk_mono (w_f_X2_readDeed_3_90 h_2) (fun _ k => Fr_trans k_2 (Fr_mono fs_X2_readDeed_3_90__X2_readDeed_3 k))
def S_read_3 : CL := [(0, 4, 4), (0, 5, 0), (0, 5, 1), (0, 12, 5), (1, 12, 2)]
theorem w_f_X2_readLevel_3_105 (kR_X2_readLevel : HS → Int32 → Int32 → Option HS) (hk_kR_X2_readLevel : ∀ (h : HS) (x0 : Int32) (x1 : Int32), pk (kR_X2_readLevel h x0 x1) (fun a => Fr S_read_3 h a)) (kR_X2_readAsk : HS → Int32 → Option HS) (hk_kR_X2_readAsk : ∀ (h : HS) (x0 : Int32), pk (kR_X2_readAsk h x0) (fun a => Fr S_read_3 h a)) (kR_X2_readOne : HS → Int32 → Option HS) (hk_kR_X2_readOne : ∀ (h : HS) (x0 : Int32), pk (kR_X2_readOne h x0) (fun a => Fr S_read_3 h a)) (h : HS) : pk (f_X2_readLevel_3_105 kR_X2_readLevel kR_X2_readAsk kR_X2_readOne h) (fun a => Fr S_read_3 h a) := by
  unfold f_X2_readLevel_3_105
  exact pk_some (Fr_refl _ h)
theorem fs_X7_kind__read_3 : ∀ x ∈ S_X7_kind, x ∈ S_read_3 := by decide
theorem fs_X7_advance__read_3 : ∀ x ∈ S_X7_advance, x ∈ S_read_3 := by decide
theorem fs_X6_addStep_3__read_3 : ∀ x ∈ S_X6_addStep_3, x ∈ S_read_3 := by decide
theorem w_f_X2_readLevel_3_42 (kR_X2_readLevel : HS → Int32 → Int32 → Option HS) (hk_kR_X2_readLevel : ∀ (h : HS) (x0 : Int32) (x1 : Int32), pk (kR_X2_readLevel h x0 x1) (fun a => Fr S_read_3 h a)) (kR_X2_readAsk : HS → Int32 → Option HS) (hk_kR_X2_readAsk : ∀ (h : HS) (x0 : Int32), pk (kR_X2_readAsk h x0) (fun a => Fr S_read_3 h a)) (kR_X2_readOne : HS → Int32 → Option HS) (hk_kR_X2_readOne : ∀ (h : HS) (x0 : Int32), pk (kR_X2_readOne h x0) (fun a => Fr S_read_3 h a)) : ∀ (n : Nat) (h : HS) (x3 : Int32) (x4 : Int32) (x5 : Int32), pk (f_X2_readLevel_3_42 kR_X2_readLevel kR_X2_readAsk kR_X2_readOne n h x3 x4 x5) (fun a => Fr S_read_3 h a) := by
  intro n
  induction n with
  | zero => intro h x3 x4 x5; exact pk_none
  | succ n ih =>
    intro h x3 x4 x5
    rw [f_X2_readLevel_3_42_s]
    refine pk_if (fun _ => ?_) (fun _ => ?_)
    · exact pk_mono (w_f_X2_readLevel_3_105 kR_X2_readLevel hk_kR_X2_readLevel kR_X2_readAsk hk_kR_X2_readAsk kR_X2_readOne hk_kR_X2_readOne h) (fun _ k => Fr_trans (Fr_refl _ h) k)
    · refine pk_if (fun _ => ?_) (fun _ => ?_)
      · refine pk_ob2 (w_f_X7_kind h) (fun r_8 h_8 k_1 => ?_)
        replace k_1 := Fr_trans (Fr_refl _ h) (Fr_mono fs_X7_kind__read_3 k_1)
        refine pk_obf (fun r_9 => ?_)
        refine pk_if (fun _ => ?_) (fun _ => ?_)
        · refine pk_ob2 (w_f_X7_kind h_8) (fun r_11 h_11 k_2 => ?_)
          replace k_2 := Fr_trans k_1 (Fr_mono fs_X7_kind__read_3 k_2)
          refine pk_ob1 (w_f_X7_advance h_11) (fun h_12 k_3 => ?_)
          replace k_3 := Fr_trans k_2 (Fr_mono fs_X7_advance__read_3 k_3)
          refine pk_ob1 (hk_kR_X2_readLevel h_12 (x3 + 1) x4) (fun h_13 k_4 => ?_)
          replace k_4 := Fr_trans k_3 k_4
          refine pk_ob1 (w_f_X6_addStep_3 h_13 (20000 + r_11)) (fun h_14 k_5 => ?_)
          replace k_5 := Fr_trans k_4 (Fr_mono fs_X6_addStep_3__read_3 k_5)
          exact pk_mono (ih h_14 x3 x4 (x5 + 1)) (fun _ k => Fr_trans k_5 k)
        · exact pk_mono (w_f_X2_readLevel_3_105 kR_X2_readLevel hk_kR_X2_readLevel kR_X2_readAsk hk_kR_X2_readAsk kR_X2_readOne hk_kR_X2_readOne h_8) (fun _ k => Fr_trans k_1 k)
      · exact pk_mono (w_f_X2_readLevel_3_105 kR_X2_readLevel hk_kR_X2_readLevel kR_X2_readAsk hk_kR_X2_readAsk kR_X2_readOne hk_kR_X2_readOne h) (fun _ k => Fr_trans (Fr_refl _ h) k)
theorem w_f_X2_readLevel_3_b (kR_X2_readLevel : HS → Int32 → Int32 → Option HS) (hk_kR_X2_readLevel : ∀ (h : HS) (x0 : Int32) (x1 : Int32), pk (kR_X2_readLevel h x0 x1) (fun a => Fr S_read_3 h a)) (kR_X2_readAsk : HS → Int32 → Option HS) (hk_kR_X2_readAsk : ∀ (h : HS) (x0 : Int32), pk (kR_X2_readAsk h x0) (fun a => Fr S_read_3 h a)) (kR_X2_readOne : HS → Int32 → Option HS) (hk_kR_X2_readOne : ∀ (h : HS) (x0 : Int32), pk (kR_X2_readOne h x0) (fun a => Fr S_read_3 h a)) (h : HS) (p1 : Int32) (p2 : Int32) : pk (f_X2_readLevel_3_b kR_X2_readLevel kR_X2_readAsk kR_X2_readOne h p1 p2) (fun a => Fr S_read_3 h a) := by
  unfold f_X2_readLevel_3_b
  refine pk_if (fun _ => ?_) (fun _ => ?_)
  · refine pk_ob1 (hk_kR_X2_readAsk h p2) (fun h_5 k_1 => ?_)
    replace k_1 := Fr_trans (Fr_refl _ h) k_1
    exact pk_some k_1
  · refine pk_if (fun _ => ?_) (fun _ => ?_)
    · refine pk_ob1 (hk_kR_X2_readOne h p2) (fun h_4 k_2 => ?_)
      replace k_2 := Fr_trans (Fr_refl _ h) k_2
      exact pk_some k_2
    · refine pk_ob1 (hk_kR_X2_readLevel h (p1 + 1) p2) (fun h_3 k_3 => ?_)
      replace k_3 := Fr_trans (Fr_refl _ h) k_3
      exact pk_mono (w_f_X2_readLevel_3_42 kR_X2_readLevel hk_kR_X2_readLevel kR_X2_readAsk hk_kR_X2_readAsk kR_X2_readOne hk_kR_X2_readOne 8589934592 h_3 p1 p2 0) (fun _ k => Fr_trans k_3 k)
theorem w_f_X2_readAsk_3_97 (kR_X2_readLevel : HS → Int32 → Int32 → Option HS) (hk_kR_X2_readLevel : ∀ (h : HS) (x0 : Int32) (x1 : Int32), pk (kR_X2_readLevel h x0 x1) (fun a => Fr S_read_3 h a)) (kR_X2_readAsk : HS → Int32 → Option HS) (hk_kR_X2_readAsk : ∀ (h : HS) (x0 : Int32), pk (kR_X2_readAsk h x0) (fun a => Fr S_read_3 h a)) (kR_X2_readOne : HS → Int32 → Option HS) (hk_kR_X2_readOne : ∀ (h : HS) (x0 : Int32), pk (kR_X2_readOne h x0) (fun a => Fr S_read_3 h a)) (h : HS) : pk (f_X2_readAsk_3_97 kR_X2_readLevel kR_X2_readAsk kR_X2_readOne h) (fun a => Fr S_read_3 h a) := by
  unfold f_X2_readAsk_3_97
  exact pk_some (Fr_refl _ h)
theorem w_f_X2_readAsk_3_68 (kR_X2_readLevel : HS → Int32 → Int32 → Option HS) (hk_kR_X2_readLevel : ∀ (h : HS) (x0 : Int32) (x1 : Int32), pk (kR_X2_readLevel h x0 x1) (fun a => Fr S_read_3 h a)) (kR_X2_readAsk : HS → Int32 → Option HS) (hk_kR_X2_readAsk : ∀ (h : HS) (x0 : Int32), pk (kR_X2_readAsk h x0) (fun a => Fr S_read_3 h a)) (kR_X2_readOne : HS → Int32 → Option HS) (hk_kR_X2_readOne : ∀ (h : HS) (x0 : Int32), pk (kR_X2_readOne h x0) (fun a => Fr S_read_3 h a)) (h : HS) (x3 : Int32) (x4 : Int32) : pk (f_X2_readAsk_3_68 kR_X2_readLevel kR_X2_readAsk kR_X2_readOne h x3 x4) (fun a => Fr S_read_3 h a) := by
  unfold f_X2_readAsk_3_68
  refine pk_if (fun _ => ?_) (fun _ => ?_)
  · refine pk_ob1 (w_f_X7_advance h) (fun h_13 k_1 => ?_)
    replace k_1 := Fr_trans (Fr_refl _ h) (Fr_mono fs_X7_advance__read_3 k_1)
    refine pk_ob1 (hk_kR_X2_readLevel h_13 3 x3) (fun h_14 k_2 => ?_)
    replace k_2 := Fr_trans k_1 k_2
    refine pk_ob1 (w_f_X6_addStep_3 h_14 (20000 + x4)) (fun h_15 k_3 => ?_)
    replace k_3 := Fr_trans k_2 (Fr_mono fs_X6_addStep_3__read_3 k_3)
    exact pk_mono (w_f_X2_readAsk_3_97 kR_X2_readLevel hk_kR_X2_readLevel kR_X2_readAsk hk_kR_X2_readAsk kR_X2_readOne hk_kR_X2_readOne h_15) (fun _ k => Fr_trans k_3 k)
  · exact pk_mono (w_f_X2_readAsk_3_97 kR_X2_readLevel hk_kR_X2_readLevel kR_X2_readAsk hk_kR_X2_readAsk kR_X2_readOne hk_kR_X2_readOne h) (fun _ k => Fr_trans (Fr_refl _ h) k)
theorem fs_X2_fail__read_3 : ∀ x ∈ S_X2_fail, x ∈ S_read_3 := by decide
theorem w_f_X2_readAsk_3_62 (kR_X2_readLevel : HS → Int32 → Int32 → Option HS) (hk_kR_X2_readLevel : ∀ (h : HS) (x0 : Int32) (x1 : Int32), pk (kR_X2_readLevel h x0 x1) (fun a => Fr S_read_3 h a)) (kR_X2_readAsk : HS → Int32 → Option HS) (hk_kR_X2_readAsk : ∀ (h : HS) (x0 : Int32), pk (kR_X2_readAsk h x0) (fun a => Fr S_read_3 h a)) (kR_X2_readOne : HS → Int32 → Option HS) (hk_kR_X2_readOne : ∀ (h : HS) (x0 : Int32), pk (kR_X2_readOne h x0) (fun a => Fr S_read_3 h a)) (h : HS) (x3 : Int32) (x4 : Int32) : pk (f_X2_readAsk_3_62 kR_X2_readLevel kR_X2_readAsk kR_X2_readOne h x3 x4) (fun a => Fr S_read_3 h a) := by
  unfold f_X2_readAsk_3_62
  refine pk_ob1 (w_f_X2_fail h 1) (fun h_11 k_1 => ?_)
  replace k_1 := Fr_trans (Fr_refl _ h) (Fr_mono fs_X2_fail__read_3 k_1)
  exact pk_mono (w_f_X2_readAsk_3_68 kR_X2_readLevel hk_kR_X2_readLevel kR_X2_readAsk hk_kR_X2_readAsk kR_X2_readOne hk_kR_X2_readOne h_11 x3 x4) (fun _ k => Fr_trans k_1 k)
theorem w_f_X2_readAsk_3_34 (kR_X2_readLevel : HS → Int32 → Int32 → Option HS) (hk_kR_X2_readLevel : ∀ (h : HS) (x0 : Int32) (x1 : Int32), pk (kR_X2_readLevel h x0 x1) (fun a => Fr S_read_3 h a)) (kR_X2_readAsk : HS → Int32 → Option HS) (hk_kR_X2_readAsk : ∀ (h : HS) (x0 : Int32), pk (kR_X2_readAsk h x0) (fun a => Fr S_read_3 h a)) (kR_X2_readOne : HS → Int32 → Option HS) (hk_kR_X2_readOne : ∀ (h : HS) (x0 : Int32), pk (kR_X2_readOne h x0) (fun a => Fr S_read_3 h a)) (h : HS) : pk (f_X2_readAsk_3_34 kR_X2_readLevel kR_X2_readAsk kR_X2_readOne h) (fun a => Fr S_read_3 h a) := by
  unfold f_X2_readAsk_3_34
  exact pk_some (Fr_refl _ h)
theorem fs_X2_opens__read_3 : ∀ x ∈ S_X2_opens, x ∈ S_read_3 := by decide
theorem w_f_X2_readAsk_3_b (kR_X2_readLevel : HS → Int32 → Int32 → Option HS) (hk_kR_X2_readLevel : ∀ (h : HS) (x0 : Int32) (x1 : Int32), pk (kR_X2_readLevel h x0 x1) (fun a => Fr S_read_3 h a)) (kR_X2_readAsk : HS → Int32 → Option HS) (hk_kR_X2_readAsk : ∀ (h : HS) (x0 : Int32), pk (kR_X2_readAsk h x0) (fun a => Fr S_read_3 h a)) (kR_X2_readOne : HS → Int32 → Option HS) (hk_kR_X2_readOne : ∀ (h : HS) (x0 : Int32), pk (kR_X2_readOne h x0) (fun a => Fr S_read_3 h a)) (h : HS) (p1 : Int32) : pk (f_X2_readAsk_3_b kR_X2_readLevel kR_X2_readAsk kR_X2_readOne h p1) (fun a => Fr S_read_3 h a) := by
  unfold f_X2_readAsk_3_b
  refine pk_ob2 (w_f_X7_kind h) (fun r_1 h_1 k_1 => ?_)
  replace k_1 := Fr_trans (Fr_refl _ h) (Fr_mono fs_X7_kind__read_3 k_1)
  refine pk_if (fun _ => ?_) (fun _ => ?_)
  · refine pk_ob2 (w_f_X2_opens h_1 p1) (fun r_7 h_7 k_2 => ?_)
    replace k_2 := Fr_trans k_1 (Fr_mono fs_X2_opens__read_3 k_2)
    refine pk_if (fun _ => ?_) (fun _ => ?_)
    · exact pk_mono (w_f_X2_readAsk_3_34 kR_X2_readLevel hk_kR_X2_readLevel kR_X2_readAsk hk_kR_X2_readAsk kR_X2_readOne hk_kR_X2_readOne h_7) (fun _ k => Fr_trans k_2 k)
    · refine pk_ob1 (hk_kR_X2_readAsk h_7 (p1 + 1)) (fun h_9 k_3 => ?_)
      replace k_3 := Fr_trans k_2 k_3
      refine pk_ob1 (w_f_X6_addStep_3 h_9 20028) (fun h_10 k_4 => ?_)
      replace k_4 := Fr_trans k_3 (Fr_mono fs_X6_addStep_3__read_3 k_4)
      exact pk_mono (w_f_X2_readAsk_3_34 kR_X2_readLevel hk_kR_X2_readLevel kR_X2_readAsk hk_kR_X2_readAsk kR_X2_readOne hk_kR_X2_readOne h_10) (fun _ k => Fr_trans k_4 k)
  · refine pk_ob1 (hk_kR_X2_readLevel h_1 3 p1) (fun h_3 k_5 => ?_)
    replace k_5 := Fr_trans k_1 k_5
    refine pk_ob2 (w_f_X7_kind h_3) (fun r_4 h_4 k_6 => ?_)
    replace k_6 := Fr_trans k_5 (Fr_mono fs_X7_kind__read_3 k_6)
    refine pk_if (fun _ => ?_) (fun _ => ?_)
    · exact pk_mono (w_f_X2_readAsk_3_62 kR_X2_readLevel hk_kR_X2_readLevel kR_X2_readAsk hk_kR_X2_readAsk kR_X2_readOne hk_kR_X2_readOne h_4 p1 r_4) (fun _ k => Fr_trans k_6 k)
    · refine pk_if (fun _ => ?_) (fun _ => ?_)
      · exact pk_mono (w_f_X2_readAsk_3_68 kR_X2_readLevel hk_kR_X2_readLevel kR_X2_readAsk hk_kR_X2_readAsk kR_X2_readOne hk_kR_X2_readOne h_4 p1 r_4) (fun _ k => Fr_trans k_6 k)
      · exact pk_mono (w_f_X2_readAsk_3_62 kR_X2_readLevel hk_kR_X2_readLevel kR_X2_readAsk hk_kR_X2_readAsk kR_X2_readOne hk_kR_X2_readOne h_4 p1 r_4) (fun _ k => Fr_trans k_6 k)
theorem w_f_X2_readOne_3_121 (kR_X2_readLevel : HS → Int32 → Int32 → Option HS) (hk_kR_X2_readLevel : ∀ (h : HS) (x0 : Int32) (x1 : Int32), pk (kR_X2_readLevel h x0 x1) (fun a => Fr S_read_3 h a)) (kR_X2_readAsk : HS → Int32 → Option HS) (hk_kR_X2_readAsk : ∀ (h : HS) (x0 : Int32), pk (kR_X2_readAsk h x0) (fun a => Fr S_read_3 h a)) (kR_X2_readOne : HS → Int32 → Option HS) (hk_kR_X2_readOne : ∀ (h : HS) (x0 : Int32), pk (kR_X2_readOne h x0) (fun a => Fr S_read_3 h a)) (h : HS) : pk (f_X2_readOne_3_121 kR_X2_readLevel kR_X2_readAsk kR_X2_readOne h) (fun a => Fr S_read_3 h a) := by
  unfold f_X2_readOne_3_121
  exact pk_some (Fr_refl _ h)
theorem fs_X2_expect__read_3 : ∀ x ∈ S_X2_expect, x ∈ S_read_3 := by decide
theorem w_f_X2_readOne_3_44 (kR_X2_readLevel : HS → Int32 → Int32 → Option HS) (hk_kR_X2_readLevel : ∀ (h : HS) (x0 : Int32) (x1 : Int32), pk (kR_X2_readLevel h x0 x1) (fun a => Fr S_read_3 h a)) (kR_X2_readAsk : HS → Int32 → Option HS) (hk_kR_X2_readAsk : ∀ (h : HS) (x0 : Int32), pk (kR_X2_readAsk h x0) (fun a => Fr S_read_3 h a)) (kR_X2_readOne : HS → Int32 → Option HS) (hk_kR_X2_readOne : ∀ (h : HS) (x0 : Int32), pk (kR_X2_readOne h x0) (fun a => Fr S_read_3 h a)) (h : HS) (x3 : Int32) (x4 : Int32) : pk (f_X2_readOne_3_44 kR_X2_readLevel kR_X2_readAsk kR_X2_readOne h x3 x4) (fun a => Fr S_read_3 h a) := by
  unfold f_X2_readOne_3_44
  refine pk_if (fun _ => ?_) (fun _ => ?_)
  · refine pk_ob2 (w_f_X2_opens h x3) (fun r_14 h_14 k_1 => ?_)
    replace k_1 := Fr_trans (Fr_refl _ h) (Fr_mono fs_X2_opens__read_3 k_1)
    refine pk_if (fun _ => ?_) (fun _ => ?_)
    · exact pk_mono (w_f_X2_readOne_3_121 kR_X2_readLevel hk_kR_X2_readLevel kR_X2_readAsk hk_kR_X2_readAsk kR_X2_readOne hk_kR_X2_readOne h_14) (fun _ k => Fr_trans k_1 k)
    · refine pk_ob1 (hk_kR_X2_readLevel h_14 3 (x3 + 1)) (fun h_16 k_2 => ?_)
      replace k_2 := Fr_trans k_1 k_2
      refine pk_ob1 (w_f_X2_expect h_16 14) (fun h_17 k_3 => ?_)
      replace k_3 := Fr_trans k_2 (Fr_mono fs_X2_expect__read_3 k_3)
      exact pk_mono (w_f_X2_readOne_3_121 kR_X2_readLevel hk_kR_X2_readLevel kR_X2_readAsk hk_kR_X2_readAsk kR_X2_readOne hk_kR_X2_readOne h_17) (fun _ k => Fr_trans k_3 k)
  · refine pk_if (fun _ => ?_) (fun _ => ?_)
    · refine pk_ob2 (w_f_X2_opens h x3) (fun r_10 h_10 k_4 => ?_)
      replace k_4 := Fr_trans (Fr_refl _ h) (Fr_mono fs_X2_opens__read_3 k_4)
      refine pk_if (fun _ => ?_) (fun _ => ?_)
      · exact pk_mono (w_f_X2_readOne_3_121 kR_X2_readLevel hk_kR_X2_readLevel kR_X2_readAsk hk_kR_X2_readAsk kR_X2_readOne hk_kR_X2_readOne h_10) (fun _ k => Fr_trans k_4 k)
      · refine pk_ob1 (hk_kR_X2_readOne h_10 (x3 + 1)) (fun h_12 k_5 => ?_)
        replace k_5 := Fr_trans k_4 k_5
        refine pk_ob1 (w_f_X6_addStep_3 h_12 20038) (fun h_13 k_6 => ?_)
        replace k_6 := Fr_trans k_5 (Fr_mono fs_X6_addStep_3__read_3 k_6)
        exact pk_mono (w_f_X2_readOne_3_121 kR_X2_readLevel hk_kR_X2_readLevel kR_X2_readAsk hk_kR_X2_readAsk kR_X2_readOne hk_kR_X2_readOne h_13) (fun _ k => Fr_trans k_6 k)
    · refine pk_ob1 (w_f_X2_fail h 1) (fun h_9 k_7 => ?_)
      replace k_7 := Fr_trans (Fr_refl _ h) (Fr_mono fs_X2_fail__read_3 k_7)
      exact pk_mono (w_f_X2_readOne_3_121 kR_X2_readLevel hk_kR_X2_readLevel kR_X2_readAsk hk_kR_X2_readAsk kR_X2_readOne hk_kR_X2_readOne h_9) (fun _ k => Fr_trans k_7 k)
theorem fs_X2_readValue_3__read_3 : ∀ x ∈ S_X2_readValue_3, x ∈ S_read_3 := by decide
theorem fs_X2_readName_3__read_3 : ∀ x ∈ S_X2_readName_3, x ∈ S_read_3 := by decide
theorem w_f_X2_readOne_3_b (kR_X2_readLevel : HS → Int32 → Int32 → Option HS) (hk_kR_X2_readLevel : ∀ (h : HS) (x0 : Int32) (x1 : Int32), pk (kR_X2_readLevel h x0 x1) (fun a => Fr S_read_3 h a)) (kR_X2_readAsk : HS → Int32 → Option HS) (hk_kR_X2_readAsk : ∀ (h : HS) (x0 : Int32), pk (kR_X2_readAsk h x0) (fun a => Fr S_read_3 h a)) (kR_X2_readOne : HS → Int32 → Option HS) (hk_kR_X2_readOne : ∀ (h : HS) (x0 : Int32), pk (kR_X2_readOne h x0) (fun a => Fr S_read_3 h a)) (h : HS) (p1 : Int32) : pk (f_X2_readOne_3_b kR_X2_readLevel kR_X2_readAsk kR_X2_readOne h p1) (fun a => Fr S_read_3 h a) := by
  unfold f_X2_readOne_3_b
  refine pk_ob2 (w_f_X7_kind h) (fun r_1 h_1 k_1 => ?_)
  replace k_1 := Fr_trans (Fr_refl _ h) (Fr_mono fs_X7_kind__read_3 k_1)
  refine pk_if (fun _ => ?_) (fun _ => ?_)
  · refine pk_ob1 (w_f_X2_readValue_3 h_1) (fun h_6 k_2 => ?_)
    replace k_2 := Fr_trans k_1 (Fr_mono fs_X2_readValue_3__read_3 k_2)
    exact pk_mono (w_f_X2_readOne_3_121 kR_X2_readLevel hk_kR_X2_readLevel kR_X2_readAsk hk_kR_X2_readAsk kR_X2_readOne hk_kR_X2_readOne h_6) (fun _ k => Fr_trans k_2 k)
  · refine pk_if (fun _ => ?_) (fun _ => ?_)
    · exact pk_mono (w_f_X2_readOne_3_44 kR_X2_readLevel hk_kR_X2_readLevel kR_X2_readAsk hk_kR_X2_readAsk kR_X2_readOne hk_kR_X2_readOne h_1 p1 r_1) (fun _ k => Fr_trans k_1 k)
    · refine pk_if (fun _ => ?_) (fun _ => ?_)
      · exact pk_mono (w_f_X2_readOne_3_44 kR_X2_readLevel hk_kR_X2_readLevel kR_X2_readAsk hk_kR_X2_readAsk kR_X2_readOne hk_kR_X2_readOne h_1 p1 r_1) (fun _ k => Fr_trans k_1 k)
      · refine pk_ob1 (w_f_X2_readName_3 h_1) (fun h_5 k_3 => ?_)
        replace k_3 := Fr_trans k_1 (Fr_mono fs_X2_readName_3__read_3 k_3)
        exact pk_mono (w_f_X2_readOne_3_121 kR_X2_readLevel hk_kR_X2_readLevel kR_X2_readAsk hk_kR_X2_readAsk kR_X2_readOne hk_kR_X2_readOne h_5) (fun _ k => Fr_trans k_3 k)
theorem w_G_read_3 : ∀ (n t : Nat) (h : HS) (p1 p2 : Int32), pk (G_read_3 n t h p1 p2) (fun a => Fr S_read_3 h a) := by
  intro n
  induction n with
  | zero => intro t h p1 p2; exact (by simp [G_read_3]; exact pk_none)
  | succ n ih =>
    intro t h p1 p2
    match t with
    | 0 => exact w_f_X2_readLevel_3_b (fun h p1 p2 => G_read_3 n 0 h p1 p2) (fun h p1 p2 => ih 0 h p1 p2) (fun h p1 => G_read_3 n 1 h p1 0) (fun h p1 => ih 1 h p1 0) (fun h p1 => G_read_3 n 2 h p1 0) (fun h p1 => ih 2 h p1 0) h p1 p2
    | 1 => exact w_f_X2_readAsk_3_b (fun h p1 p2 => G_read_3 n 0 h p1 p2) (fun h p1 p2 => ih 0 h p1 p2) (fun h p1 => G_read_3 n 1 h p1 0) (fun h p1 => ih 1 h p1 0) (fun h p1 => G_read_3 n 2 h p1 0) (fun h p1 => ih 2 h p1 0) h p1
    | t + 2 => exact w_f_X2_readOne_3_b (fun h p1 p2 => G_read_3 n 0 h p1 p2) (fun h p1 p2 => ih 0 h p1 p2) (fun h p1 => G_read_3 n 1 h p1 0) (fun h p1 => ih 1 h p1 0) (fun h p1 => G_read_3 n 2 h p1 0) (fun h p1 => ih 2 h p1 0) h p1
def S_X2_readClause_3_158 : CL := []
theorem w_f_X2_readClause_3_158 (h : HS) : pk (f_X2_readClause_3_158 h) (fun a => Fr S_X2_readClause_3_158 h a) := by
  unfold f_X2_readClause_3_158
  exact pk_some (Fr_refl _ h)
def S_X2_readClause_3_25 : CL := [(0, 5, 0), (0, 5, 1)]
theorem fs_X2_fail__X2_readClause_3_25 : ∀ x ∈ S_X2_fail, x ∈ S_X2_readClause_3_25 := by decide
theorem fs_X2_readClause_3_158__X2_readClause_3_25 : ∀ x ∈ S_X2_readClause_3_158, x ∈ S_X2_readClause_3_25 := by decide
theorem w_f_X2_readClause_3_25 (h : HS) : pk (f_X2_readClause_3_25 h) (fun a => Fr S_X2_readClause_3_25 h a) := by
  unfold f_X2_readClause_3_25
  refine pk_ob1 (w_f_X2_fail h 1) (fun h_15 k_1 => ?_)
  replace k_1 := Fr_trans (Fr_refl _ h) (Fr_mono fs_X2_fail__X2_readClause_3_25 k_1)
  exact pk_mono (w_f_X2_readClause_3_158 h_15) (fun _ k => Fr_trans k_1 (Fr_mono fs_X2_readClause_3_158__X2_readClause_3_25 k))
def S_X2_readClause_3_141 : CL := [(0, 4, 4), (0, 5, 0), (0, 5, 1), (0, 12, 1)]
theorem fm_X2_readClause_3_141_0_12_1 : (0, 12, 1) ∈ S_X2_readClause_3_141 := by decide
theorem fs_X2_expect__X2_readClause_3_141 : ∀ x ∈ S_X2_expect, x ∈ S_X2_readClause_3_141 := by decide
theorem fs_X2_readClause_3_158__X2_readClause_3_141 : ∀ x ∈ S_X2_readClause_3_158, x ∈ S_X2_readClause_3_141 := by decide
theorem w_f_X2_readClause_3_141 (h : HS) : pk (f_X2_readClause_3_141 h) (fun a => Fr S_X2_readClause_3_141 h a) := by
  unfold f_X2_readClause_3_141
  refine pk_ob1 (w_f_X2_expect h 15) (fun h_16 k_1 => ?_)
  replace k_1 := Fr_trans (Fr_refl _ h) (Fr_mono fs_X2_expect__X2_readClause_3_141 k_1)
  exact pk_mono (w_f_X2_readClause_3_158 (sI h_16 12 1 ((eI h_16 12 1) + 1))) (fun _ k => Fr_trans (Fr_sI fm_X2_readClause_3_141_0_12_1 k_1) (Fr_mono fs_X2_readClause_3_158__X2_readClause_3_141 k))
def S_X2_readClause_3_119 : CL := [(0, 4, 4), (0, 5, 0), (0, 5, 1), (0, 12, 1), (0, 12, 5), (1, 12, 2), (1, 12, 4)]
theorem fs_read_3__X2_readClause_3_119 : ∀ x ∈ S_read_3, x ∈ S_X2_readClause_3_119 := by decide
theorem fs_X6_closeLaw_3__X2_readClause_3_119 : ∀ x ∈ S_X6_closeLaw_3, x ∈ S_X2_readClause_3_119 := by decide
theorem fs_X2_readClause_3_141__X2_readClause_3_119 : ∀ x ∈ S_X2_readClause_3_141, x ∈ S_X2_readClause_3_119 := by decide
theorem w_f_X2_readClause_3_119 (h : HS) (y0 : Int32) : pk (f_X2_readClause_3_119 h y0) (fun a => Fr S_X2_readClause_3_119 h a) := by
  unfold f_X2_readClause_3_119
  refine pk_ob1 (w_G_read_3 200 0 h y0 0) (fun h_17 k_1 => ?_)
  replace k_1 := Fr_trans (Fr_refl _ h) (Fr_mono fs_read_3__X2_readClause_3_119 k_1)
  refine pk_ob1 (w_f_X6_closeLaw_3 h_17 (eI h_17 5 2)) (fun h_18 k_2 => ?_)
  replace k_2 := Fr_trans k_1 (Fr_mono fs_X6_closeLaw_3__X2_readClause_3_119 k_2)
  exact pk_mono (w_f_X2_readClause_3_141 h_18) (fun _ k => Fr_trans k_2 (Fr_mono fs_X2_readClause_3_141__X2_readClause_3_119 k))
def S_X2_readClause_3 : CL := [(0, 4, 4), (0, 5, 0), (0, 5, 1), (0, 5, 2), (0, 12, 1), (0, 12, 5), (1, 12, 0), (1, 12, 2), (1, 12, 3), (1, 12, 4)]
theorem fm_X2_readClause_3_0_5_2 : (0, 5, 2) ∈ S_X2_readClause_3 := by decide
theorem fs_X7_kind__X2_readClause_3 : ∀ x ∈ S_X7_kind, x ∈ S_X2_readClause_3 := by decide
theorem fs_X2_readClause_3_25__X2_readClause_3 : ∀ x ∈ S_X2_readClause_3_25, x ∈ S_X2_readClause_3 := by decide
theorem fs_X6_hasLaw_3__X2_readClause_3 : ∀ x ∈ S_X6_hasLaw_3, x ∈ S_X2_readClause_3 := by decide
theorem fs_X6_setClause_3__X2_readClause_3 : ∀ x ∈ S_X6_setClause_3, x ∈ S_X2_readClause_3 := by decide
theorem fs_X7_advance__X2_readClause_3 : ∀ x ∈ S_X7_advance, x ∈ S_X2_readClause_3 := by decide
theorem fs_X2_readDeed_3__X2_readClause_3 : ∀ x ∈ S_X2_readDeed_3, x ∈ S_X2_readClause_3 := by decide
theorem fs_X2_readClause_3_141__X2_readClause_3 : ∀ x ∈ S_X2_readClause_3_141, x ∈ S_X2_readClause_3 := by decide
theorem fs_X6_beginLaw_3__X2_readClause_3 : ∀ x ∈ S_X6_beginLaw_3, x ∈ S_X2_readClause_3 := by decide
theorem fs_X2_readClause_3_119__X2_readClause_3 : ∀ x ∈ S_X2_readClause_3_119, x ∈ S_X2_readClause_3 := by decide
theorem fs_X2_fail__X2_readClause_3 : ∀ x ∈ S_X2_fail, x ∈ S_X2_readClause_3 := by decide
theorem fs_X2_readClause_3_158__X2_readClause_3 : ∀ x ∈ S_X2_readClause_3_158, x ∈ S_X2_readClause_3 := by decide
theorem w_f_X2_readClause_3 (h : HS) : pk (f_X2_readClause_3 h) (fun a => Fr S_X2_readClause_3 h a) := by
  unfold f_X2_readClause_3
  refine pk_ob2 (w_f_X7_kind h) (fun r_1 h_1 k_1 => ?_)
  replace k_1 := Fr_trans (Fr_refl _ h) (Fr_mono fs_X7_kind__X2_readClause_3 k_1)
  refine pk_if (fun _ => ?_) (fun _ => ?_)
  · exact pk_mono (w_f_X2_readClause_3_25 (sI h_1 5 2 (r_1 - 16))) (fun _ k => Fr_trans (Fr_sI fm_X2_readClause_3_0_5_2 k_1) (Fr_mono fs_X2_readClause_3_25__X2_readClause_3 k))
  · refine pk_if (fun _ => ?_) (fun _ => ?_)
    · refine pk_ob2 (w_f_X6_hasLaw_3 (sI h_1 5 2 (r_1 - 16)) (r_1 - 16)) (fun r_4 h_4 k_2 => ?_)
      replace k_2 := Fr_trans (Fr_sI fm_X2_readClause_3_0_5_2 k_1) (Fr_mono fs_X6_hasLaw_3__X2_readClause_3 k_2)
      refine pk_if (fun _ => ?_) (fun _ => ?_)
      · refine pk_if (fun _ => ?_) (fun _ => ?_)
        · refine pk_ob1 (w_f_X6_setClause_3 h_4 (eI h_4 12 1) 0 r_1) (fun h_7 k_3 => ?_)
          replace k_3 := Fr_trans k_2 (Fr_mono fs_X6_setClause_3__X2_readClause_3 k_3)
          refine pk_ob1 (w_f_X7_advance h_7) (fun h_8 k_4 => ?_)
          replace k_4 := Fr_trans k_3 (Fr_mono fs_X7_advance__X2_readClause_3 k_4)
          refine pk_if (fun _ => ?_) (fun _ => ?_)
          · refine pk_ob1 (w_f_X2_readDeed_3 h_8 r_1) (fun h_10 k_5 => ?_)
            replace k_5 := Fr_trans k_4 (Fr_mono fs_X2_readDeed_3__X2_readClause_3 k_5)
            exact pk_mono (w_f_X2_readClause_3_141 h_10) (fun _ k => Fr_trans k_5 (Fr_mono fs_X2_readClause_3_141__X2_readClause_3 k))
          · refine pk_ob1 (w_f_X6_beginLaw_3 h_8 (eI h_8 5 2)) (fun h_11 k_6 => ?_)
            replace k_6 := Fr_trans k_4 (Fr_mono fs_X6_beginLaw_3__X2_readClause_3 k_6)
            refine pk_if (fun _ => ?_) (fun _ => ?_)
            · exact pk_mono (w_f_X2_readClause_3_119 h_11 0) (fun _ k => Fr_trans k_6 (Fr_mono fs_X2_readClause_3_119__X2_readClause_3 k))
            · exact pk_mono (w_f_X2_readClause_3_119 h_11 3) (fun _ k => Fr_trans k_6 (Fr_mono fs_X2_readClause_3_119__X2_readClause_3 k))
        · refine pk_ob1 (w_f_X2_fail h_4 6) (fun h_13 k_7 => ?_)
          replace k_7 := Fr_trans k_2 (Fr_mono fs_X2_fail__X2_readClause_3 k_7)
          exact pk_mono (w_f_X2_readClause_3_158 h_13) (fun _ k => Fr_trans k_7 (Fr_mono fs_X2_readClause_3_158__X2_readClause_3 k))
      · refine pk_ob1 (w_f_X2_fail h_4 4) (fun h_14 k_8 => ?_)
        replace k_8 := Fr_trans k_2 (Fr_mono fs_X2_fail__X2_readClause_3 k_8)
        exact pk_mono (w_f_X2_readClause_3_158 h_14) (fun _ k => Fr_trans k_8 (Fr_mono fs_X2_readClause_3_158__X2_readClause_3 k))
    · exact pk_mono (w_f_X2_readClause_3_25 (sI h_1 5 2 (r_1 - 16))) (fun _ k => Fr_trans (Fr_sI fm_X2_readClause_3_0_5_2 k_1) (Fr_mono fs_X2_readClause_3_25__X2_readClause_3 k))
def S_X2_parse_3_48 : CL := []
theorem w_f_X2_parse_3_48 (h : HS) : pk (f_X2_parse_3_48 h) (fun a => Fr S_X2_parse_3_48 h a) := by
  unfold f_X2_parse_3_48
  exact pk_some (Fr_refl _ h)
def S_X2_parse_3_16 : CL := [(0, 4, 4), (0, 5, 0), (0, 5, 1), (0, 5, 2), (0, 12, 1), (0, 12, 5), (1, 12, 0), (1, 12, 2), (1, 12, 3), (1, 12, 4)]
theorem fs_X2_parse_3_48__X2_parse_3_16 : ∀ x ∈ S_X2_parse_3_48, x ∈ S_X2_parse_3_16 := by decide
theorem fs_X7_kind__X2_parse_3_16 : ∀ x ∈ S_X7_kind, x ∈ S_X2_parse_3_16 := by decide
theorem fs_X2_readClause_3__X2_parse_3_16 : ∀ x ∈ S_X2_readClause_3, x ∈ S_X2_parse_3_16 := by decide
theorem w_f_X2_parse_3_16  : ∀ (n : Nat) (h : HS) (x3 : Int32), pk (f_X2_parse_3_16  n h x3) (fun a => Fr S_X2_parse_3_16 h a) := by
  intro n
  induction n with
  | zero => intro h x3; exact pk_none
  | succ n ih =>
    intro h x3
    rw [f_X2_parse_3_16_s]
    refine pk_if (fun _ => ?_) (fun _ => ?_)
    · exact pk_mono (w_f_X2_parse_3_48 h) (fun _ k => Fr_trans (Fr_refl _ h) (Fr_mono fs_X2_parse_3_48__X2_parse_3_16 k))
    · refine pk_if (fun _ => ?_) (fun _ => ?_)
      · refine pk_ob2 (w_f_X7_kind h) (fun r_4 h_4 k_1 => ?_)
        replace k_1 := Fr_trans (Fr_refl _ h) (Fr_mono fs_X7_kind__X2_parse_3_16 k_1)
        refine pk_if (fun _ => ?_) (fun _ => ?_)
        · exact pk_mono (w_f_X2_parse_3_48 h_4) (fun _ k => Fr_trans k_1 (Fr_mono fs_X2_parse_3_48__X2_parse_3_16 k))
        · refine pk_ob1 (w_f_X2_readClause_3 h_4) (fun h_6 k_2 => ?_)
          replace k_2 := Fr_trans k_1 (Fr_mono fs_X2_readClause_3__X2_parse_3_16 k_2)
          exact pk_mono (ih h_6 (x3 + 1)) (fun _ k => Fr_trans k_2 k)
      · exact pk_mono (w_f_X2_parse_3_48 h) (fun _ k => Fr_trans (Fr_refl _ h) (Fr_mono fs_X2_parse_3_48__X2_parse_3_16 k))
def S_X2_parse_3 : CL := [(0, 4, 4), (0, 5, 0), (0, 5, 1), (0, 5, 2), (0, 12, 1), (0, 12, 5), (1, 12, 0), (1, 12, 2), (1, 12, 3), (1, 12, 4)]
theorem fm_X2_parse_3_0_5_1 : (0, 5, 1) ∈ S_X2_parse_3 := by decide
theorem fm_X2_parse_3_0_5_0 : (0, 5, 0) ∈ S_X2_parse_3 := by decide
theorem fs_X6_clear_3__X2_parse_3 : ∀ x ∈ S_X6_clear_3, x ∈ S_X2_parse_3 := by decide
theorem fs_X2_parse_3_16__X2_parse_3 : ∀ x ∈ S_X2_parse_3_16, x ∈ S_X2_parse_3 := by decide
theorem w_f_X2_parse_3 (h : HS) : pk (f_X2_parse_3 h) (fun a => Fr S_X2_parse_3 h a) := by
  unfold f_X2_parse_3
  refine pk_ob1 (w_f_X6_clear_3 (sI (sI h 5 0 0) 5 1 (-1))) (fun h_1 k_1 => ?_)
  replace k_1 := Fr_trans (Fr_sI fm_X2_parse_3_0_5_1 (Fr_sI fm_X2_parse_3_0_5_0 (Fr_refl _ h))) (Fr_mono fs_X6_clear_3__X2_parse_3 k_1)
  exact pk_mono (w_f_X2_parse_3_16 8589934592 h_1 0) (fun _ k => Fr_trans k_1 (Fr_mono fs_X2_parse_3_16__X2_parse_3 k))
def S_X8_market_25 : CL := []
theorem w_f_X8_market_25 (h : HS) : pk (f_X8_market_25 h) (fun a => Fr S_X8_market_25 h a.2) := by
  unfold f_X8_market_25
  exact pk_some (Fr_refl _ h)
def S_X8_market : CL := [(0, 1, 4), (1, 1, 1)]
theorem fs_X8_market_25__X8_market : ∀ x ∈ S_X8_market_25, x ∈ S_X8_market := by decide
theorem fs_X4_addMarket__X8_market : ∀ x ∈ S_X4_addMarket, x ∈ S_X8_market := by decide
theorem w_f_X8_market (h : HS) (p1 : Int32) (p2 : Int32) (p3 : Int32) : pk (f_X8_market h p1 p2 p3) (fun a => Fr S_X8_market h a.2) := by
  unfold f_X8_market
  refine pk_if (fun _ => ?_) (fun _ => ?_)
  · exact pk_mono (w_f_X8_market_25 h) (fun _ k => Fr_trans (Fr_refl _ h) (Fr_mono fs_X8_market_25__X8_market k))
  · refine pk_if (fun _ => ?_) (fun _ => ?_)
    · exact pk_mono (w_f_X8_market_25 h) (fun _ k => Fr_trans (Fr_refl _ h) (Fr_mono fs_X8_market_25__X8_market k))
    · refine pk_obf (fun r_3 => ?_)
      refine pk_if (fun _ => ?_) (fun _ => ?_)
      · exact pk_mono (w_f_X8_market_25 h) (fun _ k => Fr_trans (Fr_refl _ h) (Fr_mono fs_X8_market_25__X8_market k))
      · refine pk_obf (fun r_5 => ?_)
        refine pk_if (fun _ => ?_) (fun _ => ?_)
        · exact pk_mono (w_f_X8_market_25 h) (fun _ k => Fr_trans (Fr_refl _ h) (Fr_mono fs_X8_market_25__X8_market k))
        · refine pk_ob2 (w_f_X4_addMarket h p1 p2 p3) (fun r_7 h_7 k_1 => ?_)
          replace k_1 := Fr_trans (Fr_refl _ h) (Fr_mono fs_X4_addMarket__X8_market k_1)
          exact pk_some k_1
def S_X8_goose_21 : CL := []
theorem w_f_X8_goose_21 (h : HS) : pk (f_X8_goose_21 h) (fun a => Fr S_X8_goose_21 h a.2) := by
  unfold f_X8_goose_21
  exact pk_some (Fr_refl _ h)
def S_X8_goose : CL := [(0, 1, 3), (1, 1, 0)]
theorem fs_X8_goose_21__X8_goose : ∀ x ∈ S_X8_goose_21, x ∈ S_X8_goose := by decide
theorem fs_X4_addGoose__X8_goose : ∀ x ∈ S_X4_addGoose, x ∈ S_X8_goose := by decide
theorem w_f_X8_goose (h : HS) (p1 : Int32) (p2 : Int32) : pk (f_X8_goose h p1 p2) (fun a => Fr S_X8_goose h a.2) := by
  unfold f_X8_goose
  refine pk_if (fun _ => ?_) (fun _ => ?_)
  · exact pk_mono (w_f_X8_goose_21 h) (fun _ k => Fr_trans (Fr_refl _ h) (Fr_mono fs_X8_goose_21__X8_goose k))
  · refine pk_if (fun _ => ?_) (fun _ => ?_)
    · exact pk_mono (w_f_X8_goose_21 h) (fun _ k => Fr_trans (Fr_refl _ h) (Fr_mono fs_X8_goose_21__X8_goose k))
    · refine pk_if (fun _ => ?_) (fun _ => ?_)
      · exact pk_mono (w_f_X8_goose_21 h) (fun _ k => Fr_trans (Fr_refl _ h) (Fr_mono fs_X8_goose_21__X8_goose k))
      · refine pk_if (fun _ => ?_) (fun _ => ?_)
        · refine pk_ob2 (w_f_X4_addGoose h p1 p2) (fun r_5 h_5 k_1 => ?_)
          replace k_1 := Fr_trans (Fr_refl _ h) (Fr_mono fs_X4_addGoose__X8_goose k_1)
          exact pk_some k_1
        · exact pk_mono (w_f_X8_goose_21 h) (fun _ k => Fr_trans (Fr_refl _ h) (Fr_mono fs_X8_goose_21__X8_goose k))
def S_X8_store_21 : CL := []
theorem w_f_X8_store_21 (h : HS) : pk (f_X8_store_21 h) (fun a => Fr S_X8_store_21 h a.2) := by
  unfold f_X8_store_21
  exact pk_some (Fr_refl _ h)
def S_X8_store : CL := [(0, 1, 5), (0, 1, 6)]
theorem fm_X8_store_0_1_6 : (0, 1, 6) ∈ S_X8_store := by decide
theorem fm_X8_store_0_1_5 : (0, 1, 5) ∈ S_X8_store := by decide
theorem fs_X8_store_21__X8_store : ∀ x ∈ S_X8_store_21, x ∈ S_X8_store := by decide
theorem w_f_X8_store (h : HS) (p1 : Int32) (p2 : Int32) : pk (f_X8_store h p1 p2) (fun a => Fr S_X8_store h a.2) := by
  unfold f_X8_store
  refine pk_if (fun _ => ?_) (fun _ => ?_)
  · exact pk_mono (w_f_X8_store_21 h) (fun _ k => Fr_trans (Fr_refl _ h) (Fr_mono fs_X8_store_21__X8_store k))
  · refine pk_if (fun _ => ?_) (fun _ => ?_)
    · exact pk_mono (w_f_X8_store_21 h) (fun _ k => Fr_trans (Fr_refl _ h) (Fr_mono fs_X8_store_21__X8_store k))
    · refine pk_if (fun _ => ?_) (fun _ => ?_)
      · exact pk_mono (w_f_X8_store_21 h) (fun _ k => Fr_trans (Fr_refl _ h) (Fr_mono fs_X8_store_21__X8_store k))
      · refine pk_if (fun _ => ?_) (fun _ => ?_)
        · exact pk_some (Fr_sI fm_X8_store_0_1_6 (Fr_sI fm_X8_store_0_1_5 (Fr_refl _ h)))
        · exact pk_mono (w_f_X8_store_21 h) (fun _ k => Fr_trans (Fr_refl _ h) (Fr_mono fs_X8_store_21__X8_store k))
def S_X8_seed_11 : CL := []
theorem w_f_X8_seed_11 (h : HS) : pk (f_X8_seed_11 h) (fun a => Fr S_X8_seed_11 h a.2) := by
  unfold f_X8_seed_11
  exact pk_some (Fr_refl _ h)
def S_X8_seed : CL := [(0, 1, 8)]
theorem fm_X8_seed_0_1_8 : (0, 1, 8) ∈ S_X8_seed := by decide
theorem fs_X8_seed_11__X8_seed : ∀ x ∈ S_X8_seed_11, x ∈ S_X8_seed := by decide
theorem w_f_X8_seed (h : HS) (p1 : Int32) : pk (f_X8_seed h p1) (fun a => Fr S_X8_seed h a.2) := by
  unfold f_X8_seed
  refine pk_if (fun _ => ?_) (fun _ => ?_)
  · exact pk_mono (w_f_X8_seed_11 h) (fun _ k => Fr_trans (Fr_refl _ h) (Fr_mono fs_X8_seed_11__X8_seed k))
  · refine pk_if (fun _ => ?_) (fun _ => ?_)
    · exact pk_some (Fr_sI fm_X8_seed_0_1_8 (Fr_refl _ h))
    · exact pk_mono (w_f_X8_seed_11 h) (fun _ k => Fr_trans (Fr_refl _ h) (Fr_mono fs_X8_seed_11__X8_seed k))
def S_X8_fill_32 : CL := []
theorem w_f_X8_fill_32 (h : HS) : pk (f_X8_fill_32 h) (fun a => Fr S_X8_fill_32 h a.2) := by
  unfold f_X8_fill_32
  exact pk_some (Fr_refl _ h)
def S_X8_fill : CL := [(0, 1, 5), (0, 1, 11), (0, 1, 12), (0, 6, 3), (1, 1, 0), (1, 1, 2), (1, 6, 1), (1, 6, 2)]
theorem fm_X8_fill_0_1_5 : (0, 1, 5) ∈ S_X8_fill := by decide
theorem fs_X8_fill_32__X8_fill : ∀ x ∈ S_X8_fill_32, x ∈ S_X8_fill := by decide
theorem fs_X4_isHome__X8_fill : ∀ x ∈ S_X4_isHome, x ∈ S_X8_fill := by decide
theorem fs_X4_ofGoose__X8_fill : ∀ x ∈ S_X4_ofGoose, x ∈ S_X8_fill := by decide
theorem fs_X1_inkCost__X8_fill : ∀ x ∈ S_X1_inkCost, x ∈ S_X8_fill := by decide
theorem fs_X4_keepStep__X8_fill : ∀ x ∈ S_X4_keepStep, x ∈ S_X8_fill := by decide
theorem fs_X4_setGoose__X8_fill : ∀ x ∈ S_X4_setGoose, x ∈ S_X8_fill := by decide
theorem w_f_X8_fill (h : HS) (p1 : Int32) (p2 : Int32) (p3 : Int32) : pk (f_X8_fill h p1 p2 p3) (fun a => Fr S_X8_fill h a.2) := by
  unfold f_X8_fill
  refine pk_obf (fun r_1 => ?_)
  refine pk_if (fun _ => ?_) (fun _ => ?_)
  · exact pk_mono (w_f_X8_fill_32 h) (fun _ k => Fr_trans (Fr_refl _ h) (Fr_mono fs_X8_fill_32__X8_fill k))
  · refine pk_ob2 (w_f_X4_isHome h p1) (fun r_3 h_3 k_1 => ?_)
    replace k_1 := Fr_trans (Fr_refl _ h) (Fr_mono fs_X4_isHome__X8_fill k_1)
    refine pk_if (fun _ => ?_) (fun _ => ?_)
    · exact pk_mono (w_f_X8_fill_32 h_3) (fun _ k => Fr_trans k_1 (Fr_mono fs_X8_fill_32__X8_fill k))
    · refine pk_ob2 (w_f_X4_ofGoose h_3 p1 2) (fun r_5 h_5 k_2 => ?_)
      replace k_2 := Fr_trans k_1 (Fr_mono fs_X4_ofGoose__X8_fill k_2)
      refine pk_if (fun _ => ?_) (fun _ => ?_)
      · refine pk_ob2 (w_f_X1_inkCost h_5 p1 p2 p3) (fun r_7 h_7 k_3 => ?_)
        replace k_3 := Fr_trans k_2 (Fr_mono fs_X1_inkCost__X8_fill k_3)
        refine pk_if (fun _ => ?_) (fun _ => ?_)
        · refine pk_ob1 (w_f_X4_keepStep h_7) (fun h_9 k_4 => ?_)
          replace k_4 := Fr_trans k_3 (Fr_mono fs_X4_keepStep__X8_fill k_4)
          refine pk_ob1 (w_f_X4_setGoose (sI h_9 1 5 ((eI h_9 1 5) - r_7)) p1 2 p2) (fun h_10 k_5 => ?_)
          replace k_5 := Fr_trans (Fr_sI fm_X8_fill_0_1_5 k_4) (Fr_mono fs_X4_setGoose__X8_fill k_5)
          refine pk_ob1 (w_f_X4_setGoose h_10 p1 3 p3) (fun h_11 k_6 => ?_)
          replace k_6 := Fr_trans k_5 (Fr_mono fs_X4_setGoose__X8_fill k_6)
          exact pk_some k_6
        · exact pk_some k_3
      · exact pk_mono (w_f_X8_fill_32 h_5) (fun _ k => Fr_trans k_2 (Fr_mono fs_X8_fill_32__X8_fill k))
def S_X8_send_22 : CL := []
theorem w_f_X8_send_22 (h : HS) : pk (f_X8_send_22 h) (fun a => Fr S_X8_send_22 h a.2) := by
  unfold f_X8_send_22
  exact pk_some (Fr_refl _ h)
def S_X8_send : CL := [(0, 1, 11), (0, 1, 12), (1, 1, 0), (1, 1, 2)]
theorem fs_X4_hasMarket__X8_send : ∀ x ∈ S_X4_hasMarket, x ∈ S_X8_send := by decide
theorem fs_X8_send_22__X8_send : ∀ x ∈ S_X8_send_22, x ∈ S_X8_send := by decide
theorem fs_X4_isFree__X8_send : ∀ x ∈ S_X4_isFree, x ∈ S_X8_send := by decide
theorem fs_X4_keepStep__X8_send : ∀ x ∈ S_X4_keepStep, x ∈ S_X8_send := by decide
theorem fs_X4_ofMarket__X8_send : ∀ x ∈ S_X4_ofMarket, x ∈ S_X8_send := by decide
theorem fs_X4_setGoose__X8_send : ∀ x ∈ S_X4_setGoose, x ∈ S_X8_send := by decide
theorem w_f_X8_send (h : HS) (p1 : Int32) (p2 : Int32) : pk (f_X8_send h p1 p2) (fun a => Fr S_X8_send h a.2) := by
  unfold f_X8_send
  refine pk_ob2 (w_f_X4_hasMarket h p2) (fun r_1 h_1 k_1 => ?_)
  replace k_1 := Fr_trans (Fr_refl _ h) (Fr_mono fs_X4_hasMarket__X8_send k_1)
  refine pk_if (fun _ => ?_) (fun _ => ?_)
  · exact pk_mono (w_f_X8_send_22 h_1) (fun _ k => Fr_trans k_1 (Fr_mono fs_X8_send_22__X8_send k))
  · refine pk_ob2 (w_f_X4_isFree h_1 p1) (fun r_3 h_3 k_2 => ?_)
    replace k_2 := Fr_trans k_1 (Fr_mono fs_X4_isFree__X8_send k_2)
    refine pk_if (fun _ => ?_) (fun _ => ?_)
    · exact pk_mono (w_f_X8_send_22 h_3) (fun _ k => Fr_trans k_2 (Fr_mono fs_X8_send_22__X8_send k))
    · refine pk_ob1 (w_f_X4_keepStep h_3) (fun h_5 k_3 => ?_)
      replace k_3 := Fr_trans k_2 (Fr_mono fs_X4_keepStep__X8_send k_3)
      refine pk_ob2 (w_f_X4_ofMarket h_5 p2 0) (fun r_6 h_6 k_4 => ?_)
      replace k_4 := Fr_trans k_3 (Fr_mono fs_X4_ofMarket__X8_send k_4)
      refine pk_ob1 (w_f_X4_setGoose h_6 p1 4 1) (fun h_7 k_5 => ?_)
      replace k_5 := Fr_trans k_4 (Fr_mono fs_X4_setGoose__X8_send k_5)
      refine pk_ob1 (w_f_X4_setGoose h_7 p1 5 p2) (fun h_8 k_6 => ?_)
      replace k_6 := Fr_trans k_5 (Fr_mono fs_X4_setGoose__X8_send k_6)
      refine pk_ob1 (w_f_X4_setGoose h_8 p1 6 ((eI h_5 1 7) + r_6)) (fun h_9 k_7 => ?_)
      replace k_7 := Fr_trans k_6 (Fr_mono fs_X4_setGoose__X8_send k_7)
      exact pk_some k_7
def S_X8_fatten_36 : CL := []
theorem w_f_X8_fatten_36 (h : HS) : pk (f_X8_fatten_36 h) (fun a => Fr S_X8_fatten_36 h a.2) := by
  unfold f_X8_fatten_36
  exact pk_some (Fr_refl _ h)
def S_X8_fatten : CL := [(0, 1, 5), (0, 1, 11), (0, 1, 12), (1, 1, 0), (1, 1, 2)]
theorem fm_X8_fatten_0_1_5 : (0, 1, 5) ∈ S_X8_fatten := by decide
theorem fs_X4_isHome__X8_fatten : ∀ x ∈ S_X4_isHome, x ∈ S_X8_fatten := by decide
theorem fs_X8_fatten_36__X8_fatten : ∀ x ∈ S_X8_fatten_36, x ∈ S_X8_fatten := by decide
theorem fs_X4_ofGoose__X8_fatten : ∀ x ∈ S_X4_ofGoose, x ∈ S_X8_fatten := by decide
theorem fs_X4_keepStep__X8_fatten : ∀ x ∈ S_X4_keepStep, x ∈ S_X8_fatten := by decide
theorem fs_X4_setGoose__X8_fatten : ∀ x ∈ S_X4_setGoose, x ∈ S_X8_fatten := by decide
theorem w_f_X8_fatten (h : HS) (p1 : Int32) : pk (f_X8_fatten h p1) (fun a => Fr S_X8_fatten h a.2) := by
  unfold f_X8_fatten
  refine pk_ob2 (w_f_X4_isHome h p1) (fun r_1 h_1 k_1 => ?_)
  replace k_1 := Fr_trans (Fr_refl _ h) (Fr_mono fs_X4_isHome__X8_fatten k_1)
  refine pk_if (fun _ => ?_) (fun _ => ?_)
  · exact pk_mono (w_f_X8_fatten_36 h_1) (fun _ k => Fr_trans k_1 (Fr_mono fs_X8_fatten_36__X8_fatten k))
  · refine pk_ob2 (w_f_X4_ofGoose h_1 p1 0) (fun r_3 h_3 k_2 => ?_)
    replace k_2 := Fr_trans k_1 (Fr_mono fs_X4_ofGoose__X8_fatten k_2)
    refine pk_if (fun _ => ?_) (fun _ => ?_)
    · exact pk_mono (w_f_X8_fatten_36 h_3) (fun _ k => Fr_trans k_2 (Fr_mono fs_X8_fatten_36__X8_fatten k))
    · refine pk_if (fun _ => ?_) (fun _ => ?_)
      · refine pk_ob1 (w_f_X4_keepStep h_3) (fun h_6 k_3 => ?_)
        replace k_3 := Fr_trans k_2 (Fr_mono fs_X4_keepStep__X8_fatten k_3)
        refine pk_ob2 (w_f_X4_ofGoose (sI h_6 1 5 ((eI h_6 1 5) - 1)) p1 0) (fun r_7 h_7 k_4 => ?_)
        replace k_4 := Fr_trans (Fr_sI fm_X8_fatten_0_1_5 k_3) (Fr_mono fs_X4_ofGoose__X8_fatten k_4)
        refine pk_ob1 (w_f_X4_setGoose h_7 p1 0 (r_7 + 1)) (fun h_8 k_5 => ?_)
        replace k_5 := Fr_trans k_4 (Fr_mono fs_X4_setGoose__X8_fatten k_5)
        refine pk_ob2 (w_f_X4_ofGoose h_8 p1 0) (fun r_9 h_9 k_6 => ?_)
        replace k_6 := Fr_trans k_5 (Fr_mono fs_X4_ofGoose__X8_fatten k_6)
        exact pk_some k_6
      · exact pk_mono (w_f_X8_fatten_36 h_3) (fun _ k => Fr_trans k_2 (Fr_mono fs_X8_fatten_36__X8_fatten k))
def S_X8_pluck_24 : CL := []
theorem w_f_X8_pluck_24 (h : HS) : pk (f_X8_pluck_24 h) (fun a => Fr S_X8_pluck_24 h a.2) := by
  unfold f_X8_pluck_24
  exact pk_some (Fr_refl _ h)
def S_X8_pluck : CL := [(0, 1, 11), (0, 1, 12), (1, 1, 0), (1, 1, 2)]
theorem fs_X4_isHome__X8_pluck : ∀ x ∈ S_X4_isHome, x ∈ S_X8_pluck := by decide
theorem fs_X8_pluck_24__X8_pluck : ∀ x ∈ S_X8_pluck_24, x ∈ S_X8_pluck := by decide
theorem fs_X4_ofGoose__X8_pluck : ∀ x ∈ S_X4_ofGoose, x ∈ S_X8_pluck := by decide
theorem fs_X4_keepStep__X8_pluck : ∀ x ∈ S_X4_keepStep, x ∈ S_X8_pluck := by decide
theorem fs_X4_setGoose__X8_pluck : ∀ x ∈ S_X4_setGoose, x ∈ S_X8_pluck := by decide
theorem w_f_X8_pluck (h : HS) (p1 : Int32) : pk (f_X8_pluck h p1) (fun a => Fr S_X8_pluck h a.2) := by
  unfold f_X8_pluck
  refine pk_ob2 (w_f_X4_isHome h p1) (fun r_1 h_1 k_1 => ?_)
  replace k_1 := Fr_trans (Fr_refl _ h) (Fr_mono fs_X4_isHome__X8_pluck k_1)
  refine pk_if (fun _ => ?_) (fun _ => ?_)
  · exact pk_mono (w_f_X8_pluck_24 h_1) (fun _ k => Fr_trans k_1 (Fr_mono fs_X8_pluck_24__X8_pluck k))
  · refine pk_ob2 (w_f_X4_ofGoose h_1 p1 1) (fun r_3 h_3 k_2 => ?_)
    replace k_2 := Fr_trans k_1 (Fr_mono fs_X4_ofGoose__X8_pluck k_2)
    refine pk_if (fun _ => ?_) (fun _ => ?_)
    · refine pk_ob1 (w_f_X4_keepStep h_3) (fun h_5 k_3 => ?_)
      replace k_3 := Fr_trans k_2 (Fr_mono fs_X4_keepStep__X8_pluck k_3)
      refine pk_ob2 (w_f_X4_ofGoose h_5 p1 1) (fun r_6 h_6 k_4 => ?_)
      replace k_4 := Fr_trans k_3 (Fr_mono fs_X4_ofGoose__X8_pluck k_4)
      refine pk_ob1 (w_f_X4_setGoose h_6 p1 1 (r_6 - 1)) (fun h_7 k_5 => ?_)
      replace k_5 := Fr_trans k_4 (Fr_mono fs_X4_setGoose__X8_pluck k_5)
      refine pk_ob2 (w_f_X4_ofGoose h_7 p1 1) (fun r_8 h_8 k_6 => ?_)
      replace k_6 := Fr_trans k_5 (Fr_mono fs_X4_ofGoose__X8_pluck k_6)
      exact pk_some k_6
    · exact pk_mono (w_f_X8_pluck_24 h_3) (fun _ k => Fr_trans k_2 (Fr_mono fs_X8_pluck_24__X8_pluck k))
def S_X8_name : CL := [(0, 1, 11), (0, 1, 12), (1, 1, 0), (1, 1, 2)]
theorem fs_X4_isFree__X8_name : ∀ x ∈ S_X4_isFree, x ∈ S_X8_name := by decide
theorem fs_X4_keepStep__X8_name : ∀ x ∈ S_X4_keepStep, x ∈ S_X8_name := by decide
theorem fs_X4_setGoose__X8_name : ∀ x ∈ S_X4_setGoose, x ∈ S_X8_name := by decide
theorem w_f_X8_name (h : HS) (p1 : Int32) : pk (f_X8_name h p1) (fun a => Fr S_X8_name h a.2) := by
  unfold f_X8_name
  refine pk_ob2 (w_f_X4_isFree h p1) (fun r_1 h_1 k_1 => ?_)
  replace k_1 := Fr_trans (Fr_refl _ h) (Fr_mono fs_X4_isFree__X8_name k_1)
  refine pk_if (fun _ => ?_) (fun _ => ?_)
  · exact pk_some k_1
  · refine pk_ob1 (w_f_X4_keepStep h_1) (fun h_3 k_2 => ?_)
    replace k_2 := Fr_trans k_1 (Fr_mono fs_X4_keepStep__X8_name k_2)
    refine pk_ob1 (w_f_X4_setGoose h_3 p1 8 1) (fun h_4 k_3 => ?_)
    replace k_3 := Fr_trans k_2 (Fr_mono fs_X4_setGoose__X8_name k_3)
    exact pk_some k_3
def S_X8_fateAtMarket_78 : CL := []
theorem w_f_X8_fateAtMarket_78 (h : HS) (y0 : Int32) : pk (f_X8_fateAtMarket_78 h y0) (fun a => Fr S_X8_fateAtMarket_78 h a.2) := by
  unfold f_X8_fateAtMarket_78
  exact pk_some (Fr_refl _ h)
def S_X8_fateAtMarket : CL := [(0, 1, 8), (0, 6, 3), (1, 6, 1), (1, 6, 2)]
theorem fs_X1_lookAtTraveller__X8_fateAtMarket : ∀ x ∈ S_X1_lookAtTraveller, x ∈ S_X8_fateAtMarket := by decide
theorem fs_X4_draw__X8_fateAtMarket : ∀ x ∈ S_X4_draw, x ∈ S_X8_fateAtMarket := by decide
theorem fs_X1_rule__X8_fateAtMarket : ∀ x ∈ S_X1_rule, x ∈ S_X8_fateAtMarket := by decide
theorem fs_X4_ofGoose__X8_fateAtMarket : ∀ x ∈ S_X4_ofGoose, x ∈ S_X8_fateAtMarket := by decide
theorem fs_X8_fateAtMarket_78__X8_fateAtMarket : ∀ x ∈ S_X8_fateAtMarket_78, x ∈ S_X8_fateAtMarket := by decide
theorem w_f_X8_fateAtMarket (h : HS) (p1 : Int32) : pk (f_X8_fateAtMarket h p1) (fun a => Fr S_X8_fateAtMarket h a.2) := by
  unfold f_X8_fateAtMarket
  refine pk_ob1 (w_f_X1_lookAtTraveller h p1) (fun h_1 k_1 => ?_)
  replace k_1 := Fr_trans (Fr_refl _ h) (Fr_mono fs_X1_lookAtTraveller__X8_fateAtMarket k_1)
  refine pk_ob2 (w_f_X4_draw h_1) (fun r_2 h_2 k_2 => ?_)
  replace k_2 := Fr_trans k_1 (Fr_mono fs_X4_draw__X8_fateAtMarket k_2)
  refine pk_ob2 (w_f_X1_rule h_2 0) (fun r_3 h_3 k_3 => ?_)
  replace k_3 := Fr_trans k_2 (Fr_mono fs_X1_rule__X8_fateAtMarket k_3)
  refine pk_if (fun _ => ?_) (fun _ => ?_)
  · refine pk_ob2 (w_f_X4_ofGoose h_3 p1 2) (fun r_5 h_5 k_4 => ?_)
    replace k_4 := Fr_trans k_3 (Fr_mono fs_X4_ofGoose__X8_fateAtMarket k_4)
    refine pk_if (fun _ => ?_) (fun _ => ?_)
    · exact pk_some k_4
    · refine pk_ob2 (w_f_X4_draw h_5) (fun r_7 h_7 k_5 => ?_)
      replace k_5 := Fr_trans k_4 (Fr_mono fs_X4_draw__X8_fateAtMarket k_5)
      refine pk_ob2 (w_f_X1_rule h_7 1) (fun r_8 h_8 k_6 => ?_)
      replace k_6 := Fr_trans k_5 (Fr_mono fs_X1_rule__X8_fateAtMarket k_6)
      refine pk_if (fun _ => ?_) (fun _ => ?_)
      · exact pk_mono (w_f_X8_fateAtMarket_78 h_8 3) (fun _ k => Fr_trans k_6 (Fr_mono fs_X8_fateAtMarket_78__X8_fateAtMarket k))
      · exact pk_mono (w_f_X8_fateAtMarket_78 h_8 4) (fun _ k => Fr_trans k_6 (Fr_mono fs_X8_fateAtMarket_78__X8_fateAtMarket k))
  · exact pk_some k_3
def S_X8_passOneDay_15 : CL := [(0, 1, 5), (0, 1, 8), (0, 6, 3), (1, 1, 0), (1, 6, 1), (1, 6, 2)]
theorem w_f_X8_passOneDay_72 (k15 : HS → Int32 → Option HS) (hk_k15 : ∀ (h : HS) (x0 : Int32), pk (k15 h x0) (fun a => Fr S_X8_passOneDay_15 h a)) (h : HS) (x1 : Int32) : pk (f_X8_passOneDay_72 k15 h x1) (fun a => Fr S_X8_passOneDay_15 h a) := by
  unfold f_X8_passOneDay_72
  exact pk_mono (hk_k15 h (x1 + 1)) (fun _ k => Fr_trans (Fr_refl _ h) k)
theorem fs_X4_eatDaily__X8_passOneDay_15 : ∀ x ∈ S_X4_eatDaily, x ∈ S_X8_passOneDay_15 := by decide
theorem fs_X4_ofGoose__X8_passOneDay_15 : ∀ x ∈ S_X4_ofGoose, x ∈ S_X8_passOneDay_15 := by decide
theorem fs_X8_fateAtMarket__X8_passOneDay_15 : ∀ x ∈ S_X8_fateAtMarket, x ∈ S_X8_passOneDay_15 := by decide
theorem fs_X4_settle__X8_passOneDay_15 : ∀ x ∈ S_X4_settle, x ∈ S_X8_passOneDay_15 := by decide
theorem w_f_X8_passOneDay_15  : ∀ (n : Nat) (h : HS) (x1 : Int32), pk (f_X8_passOneDay_15  n h x1) (fun a => Fr S_X8_passOneDay_15 h a) := by
  intro n
  induction n with
  | zero => intro h x1; exact pk_none
  | succ n ih =>
    intro h x1
    rw [f_X8_passOneDay_15_s]
    refine pk_if (fun _ => ?_) (fun _ => ?_)
    · refine pk_ob1 (w_f_X4_eatDaily h) (fun h_2 k_1 => ?_)
      replace k_1 := Fr_trans (Fr_refl _ h) (Fr_mono fs_X4_eatDaily__X8_passOneDay_15 k_1)
      exact pk_some k_1
    · refine pk_ob2 (w_f_X4_ofGoose h x1 4) (fun r_3 h_3 k_2 => ?_)
      replace k_2 := Fr_trans (Fr_refl _ h) (Fr_mono fs_X4_ofGoose__X8_passOneDay_15 k_2)
      refine pk_if (fun _ => ?_) (fun _ => ?_)
      · refine pk_ob2 (w_f_X4_ofGoose h_3 x1 6) (fun r_5 h_5 k_3 => ?_)
        replace k_3 := Fr_trans k_2 (Fr_mono fs_X4_ofGoose__X8_passOneDay_15 k_3)
        refine pk_if (fun _ => ?_) (fun _ => ?_)
        · refine pk_ob2 (w_f_X8_fateAtMarket h_5 x1) (fun r_7 h_7 k_4 => ?_)
          replace k_4 := Fr_trans k_3 (Fr_mono fs_X8_fateAtMarket__X8_passOneDay_15 k_4)
          refine pk_ob1 (w_f_X4_settle h_7 x1 r_7) (fun h_8 k_5 => ?_)
          replace k_5 := Fr_trans k_4 (Fr_mono fs_X4_settle__X8_passOneDay_15 k_5)
          exact pk_mono (w_f_X8_passOneDay_72 (f_X8_passOneDay_15 n) ih h_8 x1) (fun _ k => Fr_trans k_5 k)
        · exact pk_mono (w_f_X8_passOneDay_72 (f_X8_passOneDay_15 n) ih h_5 x1) (fun _ k => Fr_trans k_3 k)
      · exact pk_mono (w_f_X8_passOneDay_72 (f_X8_passOneDay_15 n) ih h_3 x1) (fun _ k => Fr_trans k_2 k)
def S_X8_passOneDay : CL := [(0, 1, 5), (0, 1, 7), (0, 1, 8), (0, 6, 3), (1, 1, 0), (1, 6, 1), (1, 6, 2)]
theorem fm_X8_passOneDay_0_1_7 : (0, 1, 7) ∈ S_X8_passOneDay := by decide
theorem fs_X8_passOneDay_15__X8_passOneDay : ∀ x ∈ S_X8_passOneDay_15, x ∈ S_X8_passOneDay := by decide
theorem w_f_X8_passOneDay (h : HS) : pk (f_X8_passOneDay h) (fun a => Fr S_X8_passOneDay h a) := by
  unfold f_X8_passOneDay
  exact pk_mono (w_f_X8_passOneDay_15 8589934592 (sI h 1 7 ((eI h 1 7) + 1)) 0) (fun _ k => Fr_trans (Fr_sI fm_X8_passOneDay_0_1_7 (Fr_refl _ h)) (Fr_mono fs_X8_passOneDay_15__X8_passOneDay k))
def S_X8_pass_26 : CL := []
theorem w_f_X8_pass_26 (h : HS) : pk (f_X8_pass_26 h) (fun a => Fr S_X8_pass_26 h a.2) := by
  unfold f_X8_pass_26
  exact pk_some (Fr_refl _ h)
def S_X8_pass_37 : CL := [(0, 1, 5), (0, 1, 7), (0, 1, 8), (0, 6, 3), (1, 1, 0), (1, 6, 1), (1, 6, 2)]
theorem fs_X8_passOneDay__X8_pass_37 : ∀ x ∈ S_X8_passOneDay, x ∈ S_X8_pass_37 := by decide
theorem w_f_X8_pass_37  : ∀ (n : Nat) (h : HS) (x1 : Int32) (x2 : Int32), pk (f_X8_pass_37  n h x1 x2) (fun a => Fr S_X8_pass_37 h a.2) := by
  intro n
  induction n with
  | zero => intro h x1 x2; exact pk_none
  | succ n ih =>
    intro h x1 x2
    rw [f_X8_pass_37_s]
    refine pk_if (fun _ => ?_) (fun _ => ?_)
    · exact pk_some (Fr_refl _ h)
    · refine pk_ob1 (w_f_X8_passOneDay h) (fun h_6 k_1 => ?_)
      replace k_1 := Fr_trans (Fr_refl _ h) (Fr_mono fs_X8_passOneDay__X8_pass_37 k_1)
      exact pk_mono (ih h_6 x1 (x2 + 1)) (fun _ k => Fr_trans k_1 k)
def S_X8_pass : CL := [(0, 1, 5), (0, 1, 7), (0, 1, 8), (0, 1, 11), (0, 1, 12), (0, 6, 3), (1, 1, 0), (1, 1, 2), (1, 6, 1), (1, 6, 2)]
theorem fs_X8_pass_26__X8_pass : ∀ x ∈ S_X8_pass_26, x ∈ S_X8_pass := by decide
theorem fs_X4_keepStep__X8_pass : ∀ x ∈ S_X4_keepStep, x ∈ S_X8_pass := by decide
theorem fs_X8_pass_37__X8_pass : ∀ x ∈ S_X8_pass_37, x ∈ S_X8_pass := by decide
theorem w_f_X8_pass (h : HS) (p1 : Int32) : pk (f_X8_pass h p1) (fun a => Fr S_X8_pass h a.2) := by
  unfold f_X8_pass
  refine pk_if (fun _ => ?_) (fun _ => ?_)
  · exact pk_mono (w_f_X8_pass_26 h) (fun _ k => Fr_trans (Fr_refl _ h) (Fr_mono fs_X8_pass_26__X8_pass k))
  · refine pk_if (fun _ => ?_) (fun _ => ?_)
    · exact pk_mono (w_f_X8_pass_26 h) (fun _ k => Fr_trans (Fr_refl _ h) (Fr_mono fs_X8_pass_26__X8_pass k))
    · refine pk_if (fun _ => ?_) (fun _ => ?_)
      · refine pk_ob1 (w_f_X4_keepStep h) (fun h_4 k_1 => ?_)
        replace k_1 := Fr_trans (Fr_refl _ h) (Fr_mono fs_X4_keepStep__X8_pass k_1)
        exact pk_mono (w_f_X8_pass_37 8589934592 h_4 p1 0) (fun _ k => Fr_trans k_1 (Fr_mono fs_X8_pass_37__X8_pass k))
      · exact pk_mono (w_f_X8_pass_26 h) (fun _ k => Fr_trans (Fr_refl _ h) (Fr_mono fs_X8_pass_26__X8_pass k))
def S_X8_feed : CL := [(0, 3, 1), (1, 3, 0)]
theorem fs_X5_addFour__X8_feed : ∀ x ∈ S_X5_addFour, x ∈ S_X8_feed := by decide
theorem w_f_X8_feed (h : HS) (p1 : Int32) (p2 : Int32) (p3 : Int32) (p4 : Int32) (p5 : Int32) : pk (f_X8_feed h p1 p2 p3 p4 p5) (fun a => Fr S_X8_feed h a.2) := by
  unfold f_X8_feed
  refine pk_if (fun _ => ?_) (fun _ => ?_)
  · refine pk_ob1 (w_f_X5_addFour h p1) (fun h_2 k_1 => ?_)
    replace k_1 := Fr_trans (Fr_refl _ h) (Fr_mono fs_X5_addFour__X8_feed k_1)
    refine pk_ob1 (w_f_X5_addFour h_2 p2) (fun h_3 k_2 => ?_)
    replace k_2 := Fr_trans k_1 (Fr_mono fs_X5_addFour__X8_feed k_2)
    refine pk_ob1 (w_f_X5_addFour h_3 p3) (fun h_4 k_3 => ?_)
    replace k_3 := Fr_trans k_2 (Fr_mono fs_X5_addFour__X8_feed k_3)
    refine pk_ob1 (w_f_X5_addFour h_4 p4) (fun h_5 k_4 => ?_)
    replace k_4 := Fr_trans k_3 (Fr_mono fs_X5_addFour__X8_feed k_4)
    refine pk_ob1 (w_f_X5_addFour h_5 p5) (fun h_6 k_5 => ?_)
    replace k_5 := Fr_trans k_4 (Fr_mono fs_X5_addFour__X8_feed k_5)
    exact pk_some k_5
  · exact pk_some (Fr_refl _ h)
def S_X8_end_15 : CL := []
theorem w_f_X8_end_15 (h : HS) : pk (f_X8_end_15 h) (fun a => Fr S_X8_end_15 h a.2) := by
  unfold f_X8_end_15
  exact pk_some (Fr_refl _ h)
def S_X8_end : CL := [(0, 3, 1)]
theorem fm_X8_end_0_3_1 : (0, 3, 1) ∈ S_X8_end := by decide
theorem fs_X8_end_15__X8_end : ∀ x ∈ S_X8_end_15, x ∈ S_X8_end := by decide
theorem w_f_X8_end (h : HS) (p1 : Int32) : pk (f_X8_end h p1) (fun a => Fr S_X8_end h a.2) := by
  unfold f_X8_end
  refine pk_if (fun _ => ?_) (fun _ => ?_)
  · exact pk_mono (w_f_X8_end_15 h) (fun _ k => Fr_trans (Fr_refl _ h) (Fr_mono fs_X8_end_15__X8_end k))
  · refine pk_if (fun _ => ?_) (fun _ => ?_)
    · exact pk_some (Fr_sI fm_X8_end_0_3_1 (Fr_refl _ h))
    · exact pk_mono (w_f_X8_end_15 h) (fun _ k => Fr_trans (Fr_refl _ h) (Fr_mono fs_X8_end_15__X8_end k))
def S_X8_text : CL := [(0, 1, 9), (0, 3, 1), (0, 4, 3), (0, 4, 4), (0, 5, 0), (0, 5, 1), (0, 5, 2), (0, 9, 1), (0, 9, 5), (0, 10, 1), (0, 10, 5), (0, 11, 1), (0, 11, 5), (0, 12, 1), (0, 12, 5), (1, 4, 0), (1, 4, 1), (1, 4, 2), (1, 9, 0), (1, 9, 2), (1, 9, 3), (1, 9, 4), (1, 10, 0), (1, 10, 2), (1, 10, 3), (1, 10, 4), (1, 11, 0), (1, 11, 2), (1, 11, 3), (1, 11, 4), (1, 12, 0), (1, 12, 2), (1, 12, 3), (1, 12, 4)]
theorem fm_X8_text_0_1_9 : (0, 1, 9) ∈ S_X8_text := by decide
theorem fm_X8_text_0_3_1 : (0, 3, 1) ∈ S_X8_text := by decide
theorem fs_X7_split__X8_text : ∀ x ∈ S_X7_split, x ∈ S_X8_text := by decide
theorem fs_X2_parse_0__X8_text : ∀ x ∈ S_X2_parse_0, x ∈ S_X8_text := by decide
theorem fs_X2_parse_1__X8_text : ∀ x ∈ S_X2_parse_1, x ∈ S_X8_text := by decide
theorem fs_X2_parse_2__X8_text : ∀ x ∈ S_X2_parse_2, x ∈ S_X8_text := by decide
theorem fs_X2_parse_3__X8_text : ∀ x ∈ S_X2_parse_3, x ∈ S_X8_text := by decide
theorem w_f_X8_text (h : HS) : pk (f_X8_text h) (fun a => Fr S_X8_text h a.2) := by
  unfold f_X8_text
  refine pk_if (fun _ => ?_) (fun _ => ?_)
  · refine pk_ob1 (w_f_X7_split h) (fun h_3 k_1 => ?_)
    replace k_1 := Fr_trans (Fr_refl _ h) (Fr_mono fs_X7_split__X8_text k_1)
    refine pk_ob1 (w_f_X2_parse_0 h_3) (fun h_4 k_2 => ?_)
    replace k_2 := Fr_trans k_1 (Fr_mono fs_X2_parse_0__X8_text k_2)
    refine pk_if (fun _ => ?_) (fun _ => ?_)
    · exact pk_some (Fr_sI fm_X8_text_0_1_9 (Fr_sI fm_X8_text_0_3_1 k_2))
    · exact pk_some (Fr_sI fm_X8_text_0_3_1 k_2)
  · refine pk_if (fun _ => ?_) (fun _ => ?_)
    · refine pk_ob1 (w_f_X7_split h) (fun h_8 k_3 => ?_)
      replace k_3 := Fr_trans (Fr_refl _ h) (Fr_mono fs_X7_split__X8_text k_3)
      refine pk_ob1 (w_f_X2_parse_1 h_8) (fun h_9 k_4 => ?_)
      replace k_4 := Fr_trans k_3 (Fr_mono fs_X2_parse_1__X8_text k_4)
      refine pk_if (fun _ => ?_) (fun _ => ?_)
      · exact pk_some (Fr_sI fm_X8_text_0_1_9 (Fr_sI fm_X8_text_0_3_1 k_4))
      · exact pk_some (Fr_sI fm_X8_text_0_3_1 k_4)
    · refine pk_if (fun _ => ?_) (fun _ => ?_)
      · refine pk_ob1 (w_f_X7_split h) (fun h_13 k_5 => ?_)
        replace k_5 := Fr_trans (Fr_refl _ h) (Fr_mono fs_X7_split__X8_text k_5)
        refine pk_ob1 (w_f_X2_parse_2 h_13) (fun h_14 k_6 => ?_)
        replace k_6 := Fr_trans k_5 (Fr_mono fs_X2_parse_2__X8_text k_6)
        refine pk_if (fun _ => ?_) (fun _ => ?_)
        · exact pk_some (Fr_sI fm_X8_text_0_1_9 (Fr_sI fm_X8_text_0_3_1 k_6))
        · exact pk_some (Fr_sI fm_X8_text_0_3_1 k_6)
      · refine pk_if (fun _ => ?_) (fun _ => ?_)
        · refine pk_ob1 (w_f_X7_split h) (fun h_18 k_7 => ?_)
          replace k_7 := Fr_trans (Fr_refl _ h) (Fr_mono fs_X7_split__X8_text k_7)
          refine pk_ob1 (w_f_X2_parse_3 h_18) (fun h_19 k_8 => ?_)
          replace k_8 := Fr_trans k_7 (Fr_mono fs_X2_parse_3__X8_text k_8)
          refine pk_if (fun _ => ?_) (fun _ => ?_)
          · exact pk_some (Fr_sI fm_X8_text_0_1_9 (Fr_sI fm_X8_text_0_3_1 k_8))
          · exact pk_some (Fr_sI fm_X8_text_0_3_1 k_8)
        · exact pk_some (Fr_refl _ h)
def S_X8_fault_28 : CL := []
theorem w_f_X8_fault_28 (h : HS) (y0 : Int32) : pk (f_X8_fault_28 h y0) (fun a => Fr S_X8_fault_28 h a.2) := by
  unfold f_X8_fault_28
  exact pk_some (Fr_refl _ h)
def S_X8_fault : CL := []
theorem fs_X8_fault_28__X8_fault : ∀ x ∈ S_X8_fault_28, x ∈ S_X8_fault := by decide
theorem w_f_X8_fault (h : HS) (p1 : Int32) : pk (f_X8_fault h p1) (fun a => Fr S_X8_fault h a.2) := by
  unfold f_X8_fault
  refine pk_if (fun _ => ?_) (fun _ => ?_)
  · exact pk_some (Fr_refl _ h)
  · refine pk_if (fun _ => ?_) (fun _ => ?_)
    · exact pk_mono (w_f_X8_fault_28 h (eI h 5 1)) (fun _ k => Fr_trans (Fr_refl _ h) (Fr_mono fs_X8_fault_28__X8_fault k))
    · exact pk_mono (w_f_X8_fault_28 h (-1)) (fun _ k => Fr_trans (Fr_refl _ h) (Fr_mono fs_X8_fault_28__X8_fault k))
def S_X8_by_16 : CL := []
theorem w_f_X8_by_16 (h : HS) : pk (f_X8_by_16 h) (fun a => Fr S_X8_by_16 h a.2) := by
  unfold f_X8_by_16
  exact pk_some (Fr_refl _ h)
def S_X8_by : CL := [(0, 1, 10)]
theorem fm_X8_by_0_1_10 : (0, 1, 10) ∈ S_X8_by := by decide
theorem fs_X8_by_16__X8_by : ∀ x ∈ S_X8_by_16, x ∈ S_X8_by := by decide
theorem w_f_X8_by (h : HS) (p1 : Int32) : pk (f_X8_by h p1) (fun a => Fr S_X8_by h a.2) := by
  unfold f_X8_by
  refine pk_if (fun _ => ?_) (fun _ => ?_)
  · exact pk_mono (w_f_X8_by_16 h) (fun _ k => Fr_trans (Fr_refl _ h) (Fr_mono fs_X8_by_16__X8_by k))
  · refine pk_if (fun _ => ?_) (fun _ => ?_)
    · exact pk_some (Fr_sI fm_X8_by_0_1_10 (Fr_refl _ h))
    · exact pk_mono (w_f_X8_by_16 h) (fun _ k => Fr_trans (Fr_refl _ h) (Fr_mono fs_X8_by_16__X8_by k))
def S_X8_played_24 : CL := []
theorem w_f_X8_played_24 (h : HS) : pk (f_X8_played_24 h) (fun a => Fr S_X8_played_24 h a.2) := by
  unfold f_X8_played_24
  exact pk_some (Fr_refl _ h)
def S_X8_played_29 : CL := [(0, 1, 5), (0, 1, 7), (0, 1, 8), (0, 1, 11), (0, 1, 12), (0, 6, 3), (1, 1, 0), (1, 1, 2), (1, 6, 1), (1, 6, 2)]
theorem w_f_X8_played_146 (k29 : HS → Int32 → Option (Int32 × HS)) (hk_k29 : ∀ (h : HS) (x0 : Int32), pk (k29 h x0) (fun a => Fr S_X8_played_29 h a.2)) (h : HS) (x3 : Int32) (x6 : Int32) : pk (f_X8_played_146 k29 h x3 x6) (fun a => Fr S_X8_played_29 h a.2) := by
  unfold f_X8_played_146
  refine pk_if (fun _ => ?_) (fun _ => ?_)
  · exact pk_some (Fr_refl _ h)
  · exact pk_mono (hk_k29 h (x3 + 1)) (fun _ k => Fr_trans (Fr_refl _ h) k)
theorem fs_X6_clauseField_0__X8_played_29 : ∀ x ∈ S_X6_clauseField_0, x ∈ S_X8_played_29 := by decide
theorem fs_X8_fill__X8_played_29 : ∀ x ∈ S_X8_fill, x ∈ S_X8_played_29 := by decide
theorem fs_X8_send__X8_played_29 : ∀ x ∈ S_X8_send, x ∈ S_X8_played_29 := by decide
theorem fs_X8_fatten__X8_played_29 : ∀ x ∈ S_X8_fatten, x ∈ S_X8_played_29 := by decide
theorem fs_X8_pass__X8_played_29 : ∀ x ∈ S_X8_pass, x ∈ S_X8_played_29 := by decide
theorem w_f_X8_played_29  : ∀ (n : Nat) (h : HS) (x3 : Int32), pk (f_X8_played_29  n h x3) (fun a => Fr S_X8_played_29 h a.2) := by
  intro n
  induction n with
  | zero => intro h x3; exact pk_none
  | succ n ih =>
    intro h x3
    rw [f_X8_played_29_s]
    refine pk_if (fun _ => ?_) (fun _ => ?_)
    · exact pk_some (Fr_refl _ h)
    · refine pk_ob2 (w_f_X6_clauseField_0 h x3 1) (fun r_16 h_16 k_1 => ?_)
      replace k_1 := Fr_trans (Fr_refl _ h) (Fr_mono fs_X6_clauseField_0__X8_played_29 k_1)
      refine pk_ob2 (w_f_X6_clauseField_0 h_16 x3 2) (fun r_17 h_17 k_2 => ?_)
      replace k_2 := Fr_trans k_1 (Fr_mono fs_X6_clauseField_0__X8_played_29 k_2)
      refine pk_ob2 (w_f_X6_clauseField_0 h_17 x3 0) (fun r_18 h_18 k_3 => ?_)
      replace k_3 := Fr_trans k_2 (Fr_mono fs_X6_clauseField_0__X8_played_29 k_3)
      refine pk_if (fun _ => ?_) (fun _ => ?_)
      · refine pk_ob2 (w_f_X6_clauseField_0 h_18 x3 3) (fun r_20 h_20 k_4 => ?_)
        replace k_4 := Fr_trans k_3 (Fr_mono fs_X6_clauseField_0__X8_played_29 k_4)
        refine pk_ob2 (w_f_X8_fill h_20 r_16 r_17 r_20) (fun r_21 h_21 k_5 => ?_)
        replace k_5 := Fr_trans k_4 (Fr_mono fs_X8_fill__X8_played_29 k_5)
        exact pk_mono (w_f_X8_played_146 (f_X8_played_29 n) ih h_21 x3 r_21) (fun _ k => Fr_trans k_5 k)
      · refine pk_if (fun _ => ?_) (fun _ => ?_)
        · refine pk_ob2 (w_f_X8_send h_18 r_16 r_17) (fun r_23 h_23 k_6 => ?_)
          replace k_6 := Fr_trans k_3 (Fr_mono fs_X8_send__X8_played_29 k_6)
          exact pk_mono (w_f_X8_played_146 (f_X8_played_29 n) ih h_23 x3 r_23) (fun _ k => Fr_trans k_6 k)
        · refine pk_if (fun _ => ?_) (fun _ => ?_)
          · refine pk_ob2 (w_f_X8_fatten h_18 r_16) (fun r_25 h_25 k_7 => ?_)
            replace k_7 := Fr_trans k_3 (Fr_mono fs_X8_fatten__X8_played_29 k_7)
            exact pk_mono (w_f_X8_played_146 (f_X8_played_29 n) ih h_25 x3 r_25) (fun _ k => Fr_trans k_7 k)
          · refine pk_if (fun _ => ?_) (fun _ => ?_)
            · refine pk_ob2 (w_f_X8_pass h_18 r_16) (fun r_27 h_27 k_8 => ?_)
              replace k_8 := Fr_trans k_3 (Fr_mono fs_X8_pass__X8_played_29 k_8)
              exact pk_mono (w_f_X8_played_146 (f_X8_played_29 n) ih h_27 x3 r_27) (fun _ k => Fr_trans k_8 k)
            · exact pk_mono (w_f_X8_played_146 (f_X8_played_29 n) ih h_18 x3 0) (fun _ k => Fr_trans k_3 k)
def S_X8_played_29b : CL := [(0, 1, 5), (0, 1, 7), (0, 1, 8), (0, 1, 11), (0, 1, 12), (0, 6, 3), (1, 1, 0), (1, 1, 2), (1, 6, 1), (1, 6, 2)]
theorem w_f_X8_played_146b (k29b : HS → Int32 → Option (Int32 × HS)) (hk_k29b : ∀ (h : HS) (x0 : Int32), pk (k29b h x0) (fun a => Fr S_X8_played_29b h a.2)) (h : HS) (x3 : Int32) (x6 : Int32) : pk (f_X8_played_146b k29b h x3 x6) (fun a => Fr S_X8_played_29b h a.2) := by
  unfold f_X8_played_146b
  refine pk_if (fun _ => ?_) (fun _ => ?_)
  · exact pk_some (Fr_refl _ h)
  · exact pk_mono (hk_k29b h (x3 + 1)) (fun _ k => Fr_trans (Fr_refl _ h) k)
theorem fs_X6_clauseField_1__X8_played_29b : ∀ x ∈ S_X6_clauseField_1, x ∈ S_X8_played_29b := by decide
theorem fs_X8_fill__X8_played_29b : ∀ x ∈ S_X8_fill, x ∈ S_X8_played_29b := by decide
theorem fs_X8_send__X8_played_29b : ∀ x ∈ S_X8_send, x ∈ S_X8_played_29b := by decide
theorem fs_X8_fatten__X8_played_29b : ∀ x ∈ S_X8_fatten, x ∈ S_X8_played_29b := by decide
theorem fs_X8_pass__X8_played_29b : ∀ x ∈ S_X8_pass, x ∈ S_X8_played_29b := by decide
theorem w_f_X8_played_29b  : ∀ (n : Nat) (h : HS) (x3 : Int32), pk (f_X8_played_29b  n h x3) (fun a => Fr S_X8_played_29b h a.2) := by
  intro n
  induction n with
  | zero => intro h x3; exact pk_none
  | succ n ih =>
    intro h x3
    rw [f_X8_played_29b_s]
    refine pk_if (fun _ => ?_) (fun _ => ?_)
    · exact pk_some (Fr_refl _ h)
    · refine pk_ob2 (w_f_X6_clauseField_1 h x3 1) (fun r_29 h_29 k_1 => ?_)
      replace k_1 := Fr_trans (Fr_refl _ h) (Fr_mono fs_X6_clauseField_1__X8_played_29b k_1)
      refine pk_ob2 (w_f_X6_clauseField_1 h_29 x3 2) (fun r_30 h_30 k_2 => ?_)
      replace k_2 := Fr_trans k_1 (Fr_mono fs_X6_clauseField_1__X8_played_29b k_2)
      refine pk_ob2 (w_f_X6_clauseField_1 h_30 x3 0) (fun r_31 h_31 k_3 => ?_)
      replace k_3 := Fr_trans k_2 (Fr_mono fs_X6_clauseField_1__X8_played_29b k_3)
      refine pk_if (fun _ => ?_) (fun _ => ?_)
      · refine pk_ob2 (w_f_X6_clauseField_1 h_31 x3 3) (fun r_33 h_33 k_4 => ?_)
        replace k_4 := Fr_trans k_3 (Fr_mono fs_X6_clauseField_1__X8_played_29b k_4)
        refine pk_ob2 (w_f_X8_fill h_33 r_29 r_30 r_33) (fun r_34 h_34 k_5 => ?_)
        replace k_5 := Fr_trans k_4 (Fr_mono fs_X8_fill__X8_played_29b k_5)
        exact pk_mono (w_f_X8_played_146b (f_X8_played_29b n) ih h_34 x3 r_34) (fun _ k => Fr_trans k_5 k)
      · refine pk_if (fun _ => ?_) (fun _ => ?_)
        · refine pk_ob2 (w_f_X8_send h_31 r_29 r_30) (fun r_36 h_36 k_6 => ?_)
          replace k_6 := Fr_trans k_3 (Fr_mono fs_X8_send__X8_played_29b k_6)
          exact pk_mono (w_f_X8_played_146b (f_X8_played_29b n) ih h_36 x3 r_36) (fun _ k => Fr_trans k_6 k)
        · refine pk_if (fun _ => ?_) (fun _ => ?_)
          · refine pk_ob2 (w_f_X8_fatten h_31 r_29) (fun r_38 h_38 k_7 => ?_)
            replace k_7 := Fr_trans k_3 (Fr_mono fs_X8_fatten__X8_played_29b k_7)
            exact pk_mono (w_f_X8_played_146b (f_X8_played_29b n) ih h_38 x3 r_38) (fun _ k => Fr_trans k_7 k)
          · refine pk_if (fun _ => ?_) (fun _ => ?_)
            · refine pk_ob2 (w_f_X8_pass h_31 r_29) (fun r_40 h_40 k_8 => ?_)
              replace k_8 := Fr_trans k_3 (Fr_mono fs_X8_pass__X8_played_29b k_8)
              exact pk_mono (w_f_X8_played_146b (f_X8_played_29b n) ih h_40 x3 r_40) (fun _ k => Fr_trans k_8 k)
            · exact pk_mono (w_f_X8_played_146b (f_X8_played_29b n) ih h_31 x3 0) (fun _ k => Fr_trans k_3 k)
def S_X8_played_29c : CL := [(0, 1, 5), (0, 1, 7), (0, 1, 8), (0, 1, 11), (0, 1, 12), (0, 6, 3), (1, 1, 0), (1, 1, 2), (1, 6, 1), (1, 6, 2)]
theorem w_f_X8_played_146c (k29c : HS → Int32 → Option (Int32 × HS)) (hk_k29c : ∀ (h : HS) (x0 : Int32), pk (k29c h x0) (fun a => Fr S_X8_played_29c h a.2)) (h : HS) (x3 : Int32) (x6 : Int32) : pk (f_X8_played_146c k29c h x3 x6) (fun a => Fr S_X8_played_29c h a.2) := by
  unfold f_X8_played_146c
  refine pk_if (fun _ => ?_) (fun _ => ?_)
  · exact pk_some (Fr_refl _ h)
  · exact pk_mono (hk_k29c h (x3 + 1)) (fun _ k => Fr_trans (Fr_refl _ h) k)
theorem fs_X6_clauseField_2__X8_played_29c : ∀ x ∈ S_X6_clauseField_2, x ∈ S_X8_played_29c := by decide
theorem fs_X8_fill__X8_played_29c : ∀ x ∈ S_X8_fill, x ∈ S_X8_played_29c := by decide
theorem fs_X8_send__X8_played_29c : ∀ x ∈ S_X8_send, x ∈ S_X8_played_29c := by decide
theorem fs_X8_fatten__X8_played_29c : ∀ x ∈ S_X8_fatten, x ∈ S_X8_played_29c := by decide
theorem fs_X8_pass__X8_played_29c : ∀ x ∈ S_X8_pass, x ∈ S_X8_played_29c := by decide
theorem w_f_X8_played_29c  : ∀ (n : Nat) (h : HS) (x3 : Int32), pk (f_X8_played_29c  n h x3) (fun a => Fr S_X8_played_29c h a.2) := by
  intro n
  induction n with
  | zero => intro h x3; exact pk_none
  | succ n ih =>
    intro h x3
    rw [f_X8_played_29c_s]
    refine pk_if (fun _ => ?_) (fun _ => ?_)
    · exact pk_some (Fr_refl _ h)
    · refine pk_ob2 (w_f_X6_clauseField_2 h x3 1) (fun r_42 h_42 k_1 => ?_)
      replace k_1 := Fr_trans (Fr_refl _ h) (Fr_mono fs_X6_clauseField_2__X8_played_29c k_1)
      refine pk_ob2 (w_f_X6_clauseField_2 h_42 x3 2) (fun r_43 h_43 k_2 => ?_)
      replace k_2 := Fr_trans k_1 (Fr_mono fs_X6_clauseField_2__X8_played_29c k_2)
      refine pk_ob2 (w_f_X6_clauseField_2 h_43 x3 0) (fun r_44 h_44 k_3 => ?_)
      replace k_3 := Fr_trans k_2 (Fr_mono fs_X6_clauseField_2__X8_played_29c k_3)
      refine pk_if (fun _ => ?_) (fun _ => ?_)
      · refine pk_ob2 (w_f_X6_clauseField_2 h_44 x3 3) (fun r_46 h_46 k_4 => ?_)
        replace k_4 := Fr_trans k_3 (Fr_mono fs_X6_clauseField_2__X8_played_29c k_4)
        refine pk_ob2 (w_f_X8_fill h_46 r_42 r_43 r_46) (fun r_47 h_47 k_5 => ?_)
        replace k_5 := Fr_trans k_4 (Fr_mono fs_X8_fill__X8_played_29c k_5)
        exact pk_mono (w_f_X8_played_146c (f_X8_played_29c n) ih h_47 x3 r_47) (fun _ k => Fr_trans k_5 k)
      · refine pk_if (fun _ => ?_) (fun _ => ?_)
        · refine pk_ob2 (w_f_X8_send h_44 r_42 r_43) (fun r_49 h_49 k_6 => ?_)
          replace k_6 := Fr_trans k_3 (Fr_mono fs_X8_send__X8_played_29c k_6)
          exact pk_mono (w_f_X8_played_146c (f_X8_played_29c n) ih h_49 x3 r_49) (fun _ k => Fr_trans k_6 k)
        · refine pk_if (fun _ => ?_) (fun _ => ?_)
          · refine pk_ob2 (w_f_X8_fatten h_44 r_42) (fun r_51 h_51 k_7 => ?_)
            replace k_7 := Fr_trans k_3 (Fr_mono fs_X8_fatten__X8_played_29c k_7)
            exact pk_mono (w_f_X8_played_146c (f_X8_played_29c n) ih h_51 x3 r_51) (fun _ k => Fr_trans k_7 k)
          · refine pk_if (fun _ => ?_) (fun _ => ?_)
            · refine pk_ob2 (w_f_X8_pass h_44 r_42) (fun r_53 h_53 k_8 => ?_)
              replace k_8 := Fr_trans k_3 (Fr_mono fs_X8_pass__X8_played_29c k_8)
              exact pk_mono (w_f_X8_played_146c (f_X8_played_29c n) ih h_53 x3 r_53) (fun _ k => Fr_trans k_8 k)
            · exact pk_mono (w_f_X8_played_146c (f_X8_played_29c n) ih h_44 x3 0) (fun _ k => Fr_trans k_3 k)
def S_X8_played_29d : CL := [(0, 1, 5), (0, 1, 7), (0, 1, 8), (0, 1, 11), (0, 1, 12), (0, 6, 3), (1, 1, 0), (1, 1, 2), (1, 6, 1), (1, 6, 2)]
theorem w_f_X8_played_146d (k29d : HS → Int32 → Option (Int32 × HS)) (hk_k29d : ∀ (h : HS) (x0 : Int32), pk (k29d h x0) (fun a => Fr S_X8_played_29d h a.2)) (h : HS) (x3 : Int32) (x6 : Int32) : pk (f_X8_played_146d k29d h x3 x6) (fun a => Fr S_X8_played_29d h a.2) := by
  unfold f_X8_played_146d
  refine pk_if (fun _ => ?_) (fun _ => ?_)
  · exact pk_some (Fr_refl _ h)
  · exact pk_mono (hk_k29d h (x3 + 1)) (fun _ k => Fr_trans (Fr_refl _ h) k)
theorem fs_X6_clauseField_3__X8_played_29d : ∀ x ∈ S_X6_clauseField_3, x ∈ S_X8_played_29d := by decide
theorem fs_X8_fill__X8_played_29d : ∀ x ∈ S_X8_fill, x ∈ S_X8_played_29d := by decide
theorem fs_X8_send__X8_played_29d : ∀ x ∈ S_X8_send, x ∈ S_X8_played_29d := by decide
theorem fs_X8_fatten__X8_played_29d : ∀ x ∈ S_X8_fatten, x ∈ S_X8_played_29d := by decide
theorem fs_X8_pass__X8_played_29d : ∀ x ∈ S_X8_pass, x ∈ S_X8_played_29d := by decide
theorem w_f_X8_played_29d  : ∀ (n : Nat) (h : HS) (x3 : Int32), pk (f_X8_played_29d  n h x3) (fun a => Fr S_X8_played_29d h a.2) := by
  intro n
  induction n with
  | zero => intro h x3; exact pk_none
  | succ n ih =>
    intro h x3
    rw [f_X8_played_29d_s]
    refine pk_if (fun _ => ?_) (fun _ => ?_)
    · exact pk_some (Fr_refl _ h)
    · refine pk_ob2 (w_f_X6_clauseField_3 h x3 1) (fun r_55 h_55 k_1 => ?_)
      replace k_1 := Fr_trans (Fr_refl _ h) (Fr_mono fs_X6_clauseField_3__X8_played_29d k_1)
      refine pk_ob2 (w_f_X6_clauseField_3 h_55 x3 2) (fun r_56 h_56 k_2 => ?_)
      replace k_2 := Fr_trans k_1 (Fr_mono fs_X6_clauseField_3__X8_played_29d k_2)
      refine pk_ob2 (w_f_X6_clauseField_3 h_56 x3 0) (fun r_57 h_57 k_3 => ?_)
      replace k_3 := Fr_trans k_2 (Fr_mono fs_X6_clauseField_3__X8_played_29d k_3)
      refine pk_if (fun _ => ?_) (fun _ => ?_)
      · refine pk_ob2 (w_f_X6_clauseField_3 h_57 x3 3) (fun r_59 h_59 k_4 => ?_)
        replace k_4 := Fr_trans k_3 (Fr_mono fs_X6_clauseField_3__X8_played_29d k_4)
        refine pk_ob2 (w_f_X8_fill h_59 r_55 r_56 r_59) (fun r_60 h_60 k_5 => ?_)
        replace k_5 := Fr_trans k_4 (Fr_mono fs_X8_fill__X8_played_29d k_5)
        exact pk_mono (w_f_X8_played_146d (f_X8_played_29d n) ih h_60 x3 r_60) (fun _ k => Fr_trans k_5 k)
      · refine pk_if (fun _ => ?_) (fun _ => ?_)
        · refine pk_ob2 (w_f_X8_send h_57 r_55 r_56) (fun r_62 h_62 k_6 => ?_)
          replace k_6 := Fr_trans k_3 (Fr_mono fs_X8_send__X8_played_29d k_6)
          exact pk_mono (w_f_X8_played_146d (f_X8_played_29d n) ih h_62 x3 r_62) (fun _ k => Fr_trans k_6 k)
        · refine pk_if (fun _ => ?_) (fun _ => ?_)
          · refine pk_ob2 (w_f_X8_fatten h_57 r_55) (fun r_64 h_64 k_7 => ?_)
            replace k_7 := Fr_trans k_3 (Fr_mono fs_X8_fatten__X8_played_29d k_7)
            exact pk_mono (w_f_X8_played_146d (f_X8_played_29d n) ih h_64 x3 r_64) (fun _ k => Fr_trans k_7 k)
          · refine pk_if (fun _ => ?_) (fun _ => ?_)
            · refine pk_ob2 (w_f_X8_pass h_57 r_55) (fun r_66 h_66 k_8 => ?_)
              replace k_8 := Fr_trans k_3 (Fr_mono fs_X8_pass__X8_played_29d k_8)
              exact pk_mono (w_f_X8_played_146d (f_X8_played_29d n) ih h_66 x3 r_66) (fun _ k => Fr_trans k_8 k)
            · exact pk_mono (w_f_X8_played_146d (f_X8_played_29d n) ih h_57 x3 0) (fun _ k => Fr_trans k_3 k)
def S_X8_played : CL := [(0, 1, 5), (0, 1, 7), (0, 1, 8), (0, 1, 11), (0, 1, 12), (0, 6, 3), (1, 1, 0), (1, 1, 2), (1, 6, 1), (1, 6, 2)]
theorem fs_X8_played_24__X8_played : ∀ x ∈ S_X8_played_24, x ∈ S_X8_played := by decide
theorem fs_X8_played_29__X8_played : ∀ x ∈ S_X8_played_29, x ∈ S_X8_played := by decide
theorem fs_X8_played_29b__X8_played : ∀ x ∈ S_X8_played_29b, x ∈ S_X8_played := by decide
theorem fs_X8_played_29c__X8_played : ∀ x ∈ S_X8_played_29c, x ∈ S_X8_played := by decide
theorem fs_X8_played_29d__X8_played : ∀ x ∈ S_X8_played_29d, x ∈ S_X8_played := by decide
theorem w_f_X8_played (h : HS) (p1 : Int32) : pk (f_X8_played h p1) (fun a => Fr S_X8_played h a.2) := by
  unfold f_X8_played
  refine pk_if (fun _ => ?_) (fun _ => ?_)
  · refine pk_if (fun _ => ?_) (fun _ => ?_)
    · exact pk_mono (w_f_X8_played_24 h) (fun _ k => Fr_trans (Fr_refl _ h) (Fr_mono fs_X8_played_24__X8_played k))
    · exact pk_mono (w_f_X8_played_29 8589934592 h 0) (fun _ k => Fr_trans (Fr_refl _ h) (Fr_mono fs_X8_played_29__X8_played k))
  · refine pk_if (fun _ => ?_) (fun _ => ?_)
    · refine pk_if (fun _ => ?_) (fun _ => ?_)
      · exact pk_mono (w_f_X8_played_24 h) (fun _ k => Fr_trans (Fr_refl _ h) (Fr_mono fs_X8_played_24__X8_played k))
      · exact pk_mono (w_f_X8_played_29b 8589934592 h 0) (fun _ k => Fr_trans (Fr_refl _ h) (Fr_mono fs_X8_played_29b__X8_played k))
    · refine pk_if (fun _ => ?_) (fun _ => ?_)
      · refine pk_if (fun _ => ?_) (fun _ => ?_)
        · exact pk_mono (w_f_X8_played_24 h) (fun _ k => Fr_trans (Fr_refl _ h) (Fr_mono fs_X8_played_24__X8_played k))
        · exact pk_mono (w_f_X8_played_29c 8589934592 h 0) (fun _ k => Fr_trans (Fr_refl _ h) (Fr_mono fs_X8_played_29c__X8_played k))
      · refine pk_if (fun _ => ?_) (fun _ => ?_)
        · refine pk_if (fun _ => ?_) (fun _ => ?_)
          · exact pk_mono (w_f_X8_played_24 h) (fun _ k => Fr_trans (Fr_refl _ h) (Fr_mono fs_X8_played_24__X8_played k))
          · exact pk_mono (w_f_X8_played_29d 8589934592 h 0) (fun _ k => Fr_trans (Fr_refl _ h) (Fr_mono fs_X8_played_29d__X8_played k))
        · refine pk_if (fun _ => ?_) (fun _ => ?_)
          · exact pk_mono (w_f_X8_played_24 h) (fun _ k => Fr_trans (Fr_refl _ h) (Fr_mono fs_X8_played_24__X8_played k))
          · exact pk_mono (w_f_X8_played_24 h) (fun _ k => Fr_trans (Fr_refl _ h) (Fr_mono fs_X8_played_24__X8_played k))
def S_X8_undo_21 : CL := []
theorem w_f_X8_undo_21 (h : HS) (y0 : Int32) : pk (f_X8_undo_21 h y0) (fun a => Fr S_X8_undo_21 h a.2) := by
  unfold f_X8_undo_21
  exact pk_some (Fr_refl _ h)
def S_X8_undo : CL := [(0, 1, 5), (0, 1, 7), (0, 1, 8), (0, 1, 12), (1, 1, 0)]
theorem fs_X4_takeStepBack__X8_undo : ∀ x ∈ S_X4_takeStepBack, x ∈ S_X8_undo := by decide
theorem fs_X8_undo_21__X8_undo : ∀ x ∈ S_X8_undo_21, x ∈ S_X8_undo := by decide
theorem w_f_X8_undo (h : HS) : pk (f_X8_undo h) (fun a => Fr S_X8_undo h a.2) := by
  unfold f_X8_undo
  refine pk_ob2 (w_f_X4_takeStepBack h) (fun r_1 h_1 k_1 => ?_)
  replace k_1 := Fr_trans (Fr_refl _ h) (Fr_mono fs_X4_takeStepBack__X8_undo k_1)
  refine pk_if (fun _ => ?_) (fun _ => ?_)
  · exact pk_mono (w_f_X8_undo_21 h_1 (-1)) (fun _ k => Fr_trans k_1 (Fr_mono fs_X8_undo_21__X8_undo k))
  · exact pk_mono (w_f_X8_undo_21 h_1 (eI h_1 1 12)) (fun _ k => Fr_trans k_1 (Fr_mono fs_X8_undo_21__X8_undo k))
def S_X8_of_21 : CL := []
theorem w_f_X8_of_21 (h : HS) : pk (f_X8_of_21 h) (fun a => Fr S_X8_of_21 h a.2) := by
  unfold f_X8_of_21
  exact pk_some (Fr_refl _ h)
def S_X8_of_50 : CL := []
theorem w_f_X8_of_50 (h : HS) (y0 : Int32) : pk (f_X8_of_50 h y0) (fun a => Fr S_X8_of_50 h a.2) := by
  unfold f_X8_of_50
  exact pk_some (Fr_refl _ h)
def S_X8_of : CL := [(0, 6, 3), (1, 6, 1), (1, 6, 2)]
theorem fs_X4_hasGoose__X8_of : ∀ x ∈ S_X4_hasGoose, x ∈ S_X8_of := by decide
theorem fs_X8_of_21__X8_of : ∀ x ∈ S_X8_of_21, x ∈ S_X8_of := by decide
theorem fs_X1_isTrue__X8_of : ∀ x ∈ S_X1_isTrue, x ∈ S_X8_of := by decide
theorem fs_X8_of_50__X8_of : ∀ x ∈ S_X8_of_50, x ∈ S_X8_of := by decide
theorem fs_X4_ofGoose__X8_of : ∀ x ∈ S_X4_ofGoose, x ∈ S_X8_of := by decide
theorem w_f_X8_of (h : HS) (p1 : Int32) (p2 : Int32) : pk (f_X8_of h p1 p2) (fun a => Fr S_X8_of h a.2) := by
  unfold f_X8_of
  refine pk_ob2 (w_f_X4_hasGoose h p1) (fun r_1 h_1 k_1 => ?_)
  replace k_1 := Fr_trans (Fr_refl _ h) (Fr_mono fs_X4_hasGoose__X8_of k_1)
  refine pk_if (fun _ => ?_) (fun _ => ?_)
  · exact pk_mono (w_f_X8_of_21 h_1) (fun _ k => Fr_trans k_1 (Fr_mono fs_X8_of_21__X8_of k))
  · refine pk_if (fun _ => ?_) (fun _ => ?_)
    · exact pk_mono (w_f_X8_of_21 h_1) (fun _ k => Fr_trans k_1 (Fr_mono fs_X8_of_21__X8_of k))
    · refine pk_if (fun _ => ?_) (fun _ => ?_)
      · refine pk_if (fun _ => ?_) (fun _ => ?_)
        · refine pk_ob2 (w_f_X1_isTrue h_1 p1) (fun r_7 h_7 k_2 => ?_)
          replace k_2 := Fr_trans k_1 (Fr_mono fs_X1_isTrue__X8_of k_2)
          refine pk_if (fun _ => ?_) (fun _ => ?_)
          · exact pk_mono (w_f_X8_of_50 h_7 0) (fun _ k => Fr_trans k_2 (Fr_mono fs_X8_of_50__X8_of k))
          · exact pk_mono (w_f_X8_of_50 h_7 1) (fun _ k => Fr_trans k_2 (Fr_mono fs_X8_of_50__X8_of k))
        · refine pk_ob2 (w_f_X4_ofGoose h_1 p1 p2) (fun r_6 h_6 k_3 => ?_)
          replace k_3 := Fr_trans k_1 (Fr_mono fs_X4_ofGoose__X8_of k_3)
          exact pk_some k_3
      · exact pk_mono (w_f_X8_of_21 h_1) (fun _ k => Fr_trans k_1 (Fr_mono fs_X8_of_21__X8_of k))
def S_X8_ink_19 : CL := []
theorem w_f_X8_ink_19 (h : HS) : pk (f_X8_ink_19 h) (fun a => Fr S_X8_ink_19 h a.2) := by
  unfold f_X8_ink_19
  exact pk_some (Fr_refl _ h)
def S_X8_ink : CL := [(0, 6, 3), (1, 6, 1), (1, 6, 2)]
theorem fs_X4_hasGoose__X8_ink : ∀ x ∈ S_X4_hasGoose, x ∈ S_X8_ink := by decide
theorem fs_X8_ink_19__X8_ink : ∀ x ∈ S_X8_ink_19, x ∈ S_X8_ink := by decide
theorem fs_X1_inkCost__X8_ink : ∀ x ∈ S_X1_inkCost, x ∈ S_X8_ink := by decide
theorem w_f_X8_ink (h : HS) (p1 : Int32) (p2 : Int32) (p3 : Int32) : pk (f_X8_ink h p1 p2 p3) (fun a => Fr S_X8_ink h a.2) := by
  unfold f_X8_ink
  refine pk_ob2 (w_f_X4_hasGoose h p1) (fun r_1 h_1 k_1 => ?_)
  replace k_1 := Fr_trans (Fr_refl _ h) (Fr_mono fs_X4_hasGoose__X8_ink k_1)
  refine pk_if (fun _ => ?_) (fun _ => ?_)
  · exact pk_mono (w_f_X8_ink_19 h_1) (fun _ k => Fr_trans k_1 (Fr_mono fs_X8_ink_19__X8_ink k))
  · refine pk_obf (fun r_3 => ?_)
    refine pk_if (fun _ => ?_) (fun _ => ?_)
    · exact pk_mono (w_f_X8_ink_19 h_1) (fun _ k => Fr_trans k_1 (Fr_mono fs_X8_ink_19__X8_ink k))
    · refine pk_ob2 (w_f_X1_inkCost h_1 p1 p2 p3) (fun r_5 h_5 k_2 => ?_)
      replace k_2 := Fr_trans k_1 (Fr_mono fs_X1_inkCost__X8_ink k_2)
      exact pk_some k_2
def S_X8_tells_71 : CL := []
theorem w_f_X8_tells_71 (h : HS) (y0 : Int32) : pk (f_X8_tells_71 h y0) (fun a => Fr S_X8_tells_71 h a.2) := by
  unfold f_X8_tells_71
  refine pk_chk (fun _ => ?_)
  exact pk_some (Fr_refl _ h)
def S_X8_tells_70 : CL := []
theorem fs_X8_tells_71__X8_tells_70 : ∀ x ∈ S_X8_tells_71, x ∈ S_X8_tells_70 := by decide
theorem w_f_X8_tells_70 (h : HS) : pk (f_X8_tells_70 h) (fun a => Fr S_X8_tells_70 h a.2) := by
  unfold f_X8_tells_70
  exact pk_mono (w_f_X8_tells_71 h 0) (fun _ k => Fr_trans (Fr_refl _ h) (Fr_mono fs_X8_tells_71__X8_tells_70 k))
def S_X8_tells_37 : CL := []
theorem w_f_X8_tells_37 (h : HS) (y0 : Int32) : pk (f_X8_tells_37 h y0) (fun a => Fr S_X8_tells_37 h a.2) := by
  unfold f_X8_tells_37
  refine pk_chk (fun _ => ?_)
  exact pk_some (Fr_refl _ h)
def S_X8_tells : CL := [(0, 6, 3), (1, 6, 1), (1, 6, 2)]
theorem fs_X4_ofGoose__X8_tells : ∀ x ∈ S_X4_ofGoose, x ∈ S_X8_tells := by decide
theorem fs_X1_isTrue__X8_tells : ∀ x ∈ S_X1_isTrue, x ∈ S_X8_tells := by decide
theorem fs_X8_tells_70__X8_tells : ∀ x ∈ S_X8_tells_70, x ∈ S_X8_tells := by decide
theorem fs_X8_tells_71__X8_tells : ∀ x ∈ S_X8_tells_71, x ∈ S_X8_tells := by decide
theorem fs_X8_tells_37__X8_tells : ∀ x ∈ S_X8_tells_37, x ∈ S_X8_tells := by decide
theorem w_f_X8_tells (h : HS) (p1 : Int32) (p2 : Int32) (p3 : Int32) : pk (f_X8_tells h p1 p2 p3) (fun a => Fr S_X8_tells h a.2) := by
  unfold f_X8_tells
  refine pk_ob2 (w_f_X4_ofGoose h p1 2) (fun r_1 h_1 k_1 => ?_)
  replace k_1 := Fr_trans (Fr_refl _ h) (Fr_mono fs_X4_ofGoose__X8_tells k_1)
  refine pk_if (fun _ => ?_) (fun _ => ?_)
  · refine pk_if (fun _ => ?_) (fun _ => ?_)
    · refine pk_ob2 (w_f_X4_ofGoose h_1 p1 4) (fun r_4 h_4 k_2 => ?_)
      replace k_2 := Fr_trans k_1 (Fr_mono fs_X4_ofGoose__X8_tells k_2)
      refine pk_if (fun _ => ?_) (fun _ => ?_)
      · refine pk_ob2 (w_f_X1_isTrue h_4 p1) (fun r_6 h_6 k_3 => ?_)
        replace k_3 := Fr_trans k_2 (Fr_mono fs_X1_isTrue__X8_tells k_3)
        refine pk_if (fun _ => ?_) (fun _ => ?_)
        · exact pk_mono (w_f_X8_tells_70 h_6) (fun _ k => Fr_trans k_3 (Fr_mono fs_X8_tells_70__X8_tells k))
        · exact pk_mono (w_f_X8_tells_71 h_6 1) (fun _ k => Fr_trans k_3 (Fr_mono fs_X8_tells_71__X8_tells k))
      · exact pk_mono (w_f_X8_tells_70 h_4) (fun _ k => Fr_trans k_2 (Fr_mono fs_X8_tells_70__X8_tells k))
    · refine pk_ob2 (w_f_X4_ofGoose h_1 p1 4) (fun r_8 h_8 k_4 => ?_)
      replace k_4 := Fr_trans k_1 (Fr_mono fs_X4_ofGoose__X8_tells k_4)
      refine pk_if (fun _ => ?_) (fun _ => ?_)
      · exact pk_mono (w_f_X8_tells_37 h_8 1) (fun _ k => Fr_trans k_4 (Fr_mono fs_X8_tells_37__X8_tells k))
      · exact pk_mono (w_f_X8_tells_37 h_8 0) (fun _ k => Fr_trans k_4 (Fr_mono fs_X8_tells_37__X8_tells k))
  · exact pk_some k_1
def S_X8_halvesHad_6 : CL := [(0, 6, 3), (1, 6, 1), (1, 6, 2)]
theorem w_f_X8_halvesHad_79 (k6 : HS → Int32 → Int32 → Int32 → Int32 → Int32 → Int32 → Option (Int32 × HS)) (hk_k6 : ∀ (h : HS) (x0 : Int32) (x1 : Int32) (x2 : Int32) (x3 : Int32) (x4 : Int32) (x5 : Int32), pk (k6 h x0 x1 x2 x3 x4 x5) (fun a => Fr S_X8_halvesHad_6 h a.2)) (h : HS) (x1 : Int32) (x2 : Int32) (x3 : Int32) (x4 : Int32) (x5 : Int32) (x6 : Int32) : pk (f_X8_halvesHad_79 k6 h x1 x2 x3 x4 x5 x6) (fun a => Fr S_X8_halvesHad_6 h a.2) := by
  unfold f_X8_halvesHad_79
  exact pk_mono (hk_k6 h x1 x2 x3 x4 x5 (x6 + 1)) (fun _ k => Fr_trans (Fr_refl _ h) k)
theorem fs_X8_tells__X8_halvesHad_6 : ∀ x ∈ S_X8_tells, x ∈ S_X8_halvesHad_6 := by decide
theorem fs_X4_ofGoose__X8_halvesHad_6 : ∀ x ∈ S_X4_ofGoose, x ∈ S_X8_halvesHad_6 := by decide
theorem w_f_X8_halvesHad_50 (k6 : HS → Int32 → Int32 → Int32 → Int32 → Int32 → Int32 → Option (Int32 × HS)) (hk_k6 : ∀ (h : HS) (x0 : Int32) (x1 : Int32) (x2 : Int32) (x3 : Int32) (x4 : Int32) (x5 : Int32), pk (k6 h x0 x1 x2 x3 x4 x5) (fun a => Fr S_X8_halvesHad_6 h a.2)) (h : HS) (x1 : Int32) (x2 : Int32) (x3 : Int32) (x4 : Int32) (x5 : Int32) (x6 : Int32) : pk (f_X8_halvesHad_50 k6 h x1 x2 x3 x4 x5 x6) (fun a => Fr S_X8_halvesHad_6 h a.2) := by
  unfold f_X8_halvesHad_50
  refine pk_ob2 (w_f_X8_tells h x6 x1 x2) (fun r_6 h_6 k_1 => ?_)
  replace k_1 := Fr_trans (Fr_refl _ h) (Fr_mono fs_X8_tells__X8_halvesHad_6 k_1)
  refine pk_if (fun _ => ?_) (fun _ => ?_)
  · exact pk_mono (w_f_X8_halvesHad_79 k6 hk_k6 h_6 x1 x2 x3 x4 x5 x6) (fun _ k => Fr_trans k_1 k)
  · refine pk_ob2 (w_f_X4_ofGoose h_6 x6 3) (fun r_8 h_8 k_2 => ?_)
    replace k_2 := Fr_trans k_1 (Fr_mono fs_X4_ofGoose__X8_halvesHad_6 k_2)
    refine pk_obf (fun r_9 => ?_)
    exact pk_mono (w_f_X8_halvesHad_79 k6 hk_k6 h_8 x1 x2 x3 x4 (x5 ||| r_9) x6) (fun _ k => Fr_trans k_2 k)
theorem w_f_X8_halvesHad_6  : ∀ (n : Nat) (h : HS) (x1 : Int32) (x2 : Int32) (x3 : Int32) (x4 : Int32) (x5 : Int32) (x6 : Int32), pk (f_X8_halvesHad_6  n h x1 x2 x3 x4 x5 x6) (fun a => Fr S_X8_halvesHad_6 h a.2) := by
  intro n
  induction n with
  | zero => intro h x1 x2 x3 x4 x5 x6; exact pk_none
  | succ n ih =>
    intro h x1 x2 x3 x4 x5 x6
    rw [f_X8_halvesHad_6_s]
    refine pk_if (fun _ => ?_) (fun _ => ?_)
    · exact pk_some (Fr_refl _ h)
    · refine pk_ob2 (w_f_X4_ofGoose h x6 7) (fun r_2 h_2 k_1 => ?_)
      replace k_1 := Fr_trans (Fr_refl _ h) (Fr_mono fs_X4_ofGoose__X8_halvesHad_6 k_1)
      refine pk_if (fun _ => ?_) (fun _ => ?_)
      · exact pk_mono (w_f_X8_halvesHad_50 (f_X8_halvesHad_6 n) ih h_2 x1 x2 x3 x4 x5 x6) (fun _ k => Fr_trans k_1 k)
      · refine pk_if (fun _ => ?_) (fun _ => ?_)
        · refine pk_if (fun _ => ?_) (fun _ => ?_)
          · exact pk_mono (w_f_X8_halvesHad_79 (f_X8_halvesHad_6 n) ih h_2 x1 x2 x3 x4 x5 x6) (fun _ k => Fr_trans k_1 k)
          · exact pk_mono (w_f_X8_halvesHad_50 (f_X8_halvesHad_6 n) ih h_2 x1 x2 x3 x4 x5 x6) (fun _ k => Fr_trans k_1 k)
        · exact pk_mono (w_f_X8_halvesHad_79 (f_X8_halvesHad_6 n) ih h_2 x1 x2 x3 x4 x5 x6) (fun _ k => Fr_trans k_1 k)
def S_X8_halvesHad : CL := [(0, 6, 3), (1, 6, 1), (1, 6, 2)]
theorem fs_X8_halvesHad_6__X8_halvesHad : ∀ x ∈ S_X8_halvesHad_6, x ∈ S_X8_halvesHad := by decide
theorem w_f_X8_halvesHad (h : HS) (p1 : Int32) (p2 : Int32) (p3 : Int32) (p4 : Int32) : pk (f_X8_halvesHad h p1 p2 p3 p4) (fun a => Fr S_X8_halvesHad h a.2) := by
  unfold f_X8_halvesHad
  exact pk_mono (w_f_X8_halvesHad_6 8589934592 h p1 p2 p3 p4 0 0) (fun _ k => Fr_trans (Fr_refl _ h) (Fr_mono fs_X8_halvesHad_6__X8_halvesHad k))
def S_X8_known_18 : CL := []
theorem w_f_X8_known_18 (h : HS) : pk (f_X8_known_18 h) (fun a => Fr S_X8_known_18 h a.2) := by
  unfold f_X8_known_18
  exact pk_some (Fr_refl _ h)
def S_X8_known_57 : CL := []
theorem w_f_X8_known_57 (h : HS) (x3 : Int32) (y0 : Int32) : pk (f_X8_known_57 h x3 y0) (fun a => Fr S_X8_known_57 h a.2) := by
  unfold f_X8_known_57
  exact pk_some (Fr_refl _ h)
def S_X8_known_38 : CL := [(0, 6, 3), (1, 6, 1), (1, 6, 2)]
theorem fs_X8_halvesHad__X8_known_38 : ∀ x ∈ S_X8_halvesHad, x ∈ S_X8_known_38 := by decide
theorem fs_X8_known_57__X8_known_38 : ∀ x ∈ S_X8_known_57, x ∈ S_X8_known_38 := by decide
theorem w_f_X8_known_38 (h : HS) (x1 : Int32) (x2 : Int32) (y0 : Int32) : pk (f_X8_known_38 h x1 x2 y0) (fun a => Fr S_X8_known_38 h a.2) := by
  unfold f_X8_known_38
  refine pk_ob2 (w_f_X8_halvesHad h x1 1 x2 10) (fun r_7 h_7 k_1 => ?_)
  replace k_1 := Fr_trans (Fr_refl _ h) (Fr_mono fs_X8_halvesHad__X8_known_38 k_1)
  refine pk_if (fun _ => ?_) (fun _ => ?_)
  · exact pk_mono (w_f_X8_known_57 h_7 y0 2) (fun _ k => Fr_trans k_1 (Fr_mono fs_X8_known_57__X8_known_38 k))
  · exact pk_mono (w_f_X8_known_57 h_7 y0 0) (fun _ k => Fr_trans k_1 (Fr_mono fs_X8_known_57__X8_known_38 k))
def S_X8_known : CL := [(0, 6, 3), (1, 6, 1), (1, 6, 2)]
theorem fs_X8_known_18__X8_known : ∀ x ∈ S_X8_known_18, x ∈ S_X8_known := by decide
theorem fs_X8_halvesHad__X8_known : ∀ x ∈ S_X8_halvesHad, x ∈ S_X8_known := by decide
theorem fs_X8_known_38__X8_known : ∀ x ∈ S_X8_known_38, x ∈ S_X8_known := by decide
theorem w_f_X8_known (h : HS) (p1 : Int32) (p2 : Int32) : pk (f_X8_known h p1 p2) (fun a => Fr S_X8_known h a.2) := by
  unfold f_X8_known
  refine pk_obf (fun r_1 => ?_)
  refine pk_if (fun _ => ?_) (fun _ => ?_)
  · exact pk_mono (w_f_X8_known_18 h) (fun _ k => Fr_trans (Fr_refl _ h) (Fr_mono fs_X8_known_18__X8_known k))
  · refine pk_if (fun _ => ?_) (fun _ => ?_)
    · exact pk_mono (w_f_X8_known_18 h) (fun _ k => Fr_trans (Fr_refl _ h) (Fr_mono fs_X8_known_18__X8_known k))
    · refine pk_if (fun _ => ?_) (fun _ => ?_)
      · refine pk_ob2 (w_f_X8_halvesHad h p1 0 p2 10) (fun r_5 h_5 k_1 => ?_)
        replace k_1 := Fr_trans (Fr_refl _ h) (Fr_mono fs_X8_halvesHad__X8_known k_1)
        refine pk_if (fun _ => ?_) (fun _ => ?_)
        · exact pk_mono (w_f_X8_known_38 h_5 p1 p2 1) (fun _ k => Fr_trans k_1 (Fr_mono fs_X8_known_38__X8_known k))
        · exact pk_mono (w_f_X8_known_38 h_5 p1 p2 0) (fun _ k => Fr_trans k_1 (Fr_mono fs_X8_known_38__X8_known k))
      · exact pk_mono (w_f_X8_known_18 h) (fun _ k => Fr_trans (Fr_refl _ h) (Fr_mono fs_X8_known_18__X8_known k))
def S_X8_led_14 : CL := [(0, 6, 3), (1, 6, 1), (1, 6, 2)]
theorem w_f_X8_led_101 (k14 : HS → Int32 → Int32 → Int32 → Int32 → Option (Int32 × HS)) (hk_k14 : ∀ (h : HS) (x0 : Int32) (x1 : Int32) (x2 : Int32) (x3 : Int32), pk (k14 h x0 x1 x2 x3) (fun a => Fr S_X8_led_14 h a.2)) (h : HS) (x1 : Int32) (x2 : Int32) (x3 : Int32) (x4 : Int32) : pk (f_X8_led_101 k14 h x1 x2 x3 x4) (fun a => Fr S_X8_led_14 h a.2) := by
  unfold f_X8_led_101
  exact pk_mono (hk_k14 h x1 x2 x3 (x4 + 1)) (fun _ k => Fr_trans (Fr_refl _ h) k)
theorem fs_X8_tells__X8_led_14 : ∀ x ∈ S_X8_tells, x ∈ S_X8_led_14 := by decide
theorem fs_X8_halvesHad__X8_led_14 : ∀ x ∈ S_X8_halvesHad, x ∈ S_X8_led_14 := by decide
theorem w_f_X8_led_64 (k14 : HS → Int32 → Int32 → Int32 → Int32 → Option (Int32 × HS)) (hk_k14 : ∀ (h : HS) (x0 : Int32) (x1 : Int32) (x2 : Int32) (x3 : Int32), pk (k14 h x0 x1 x2 x3) (fun a => Fr S_X8_led_14 h a.2)) (h : HS) (x1 : Int32) (x2 : Int32) (x3 : Int32) (x4 : Int32) (x5 : Int32) (y0 : Int32) : pk (f_X8_led_64 k14 h x1 x2 x3 x4 x5 y0) (fun a => Fr S_X8_led_14 h a.2) := by
  unfold f_X8_led_64
  refine pk_if (fun _ => ?_) (fun _ => ?_)
  · exact pk_mono (w_f_X8_led_101 k14 hk_k14 h x1 x2 x3 x4) (fun _ k => Fr_trans (Fr_refl _ h) k)
  · refine pk_ob2 (w_f_X8_tells h x4 x1 x2) (fun r_9 h_9 k_1 => ?_)
    replace k_1 := Fr_trans (Fr_refl _ h) (Fr_mono fs_X8_tells__X8_led_14 k_1)
    refine pk_if (fun _ => ?_) (fun _ => ?_)
    · exact pk_mono (w_f_X8_led_101 k14 hk_k14 h_9 x1 x2 x3 x4) (fun _ k => Fr_trans k_1 k)
    · refine pk_ob2 (w_f_X8_halvesHad h_9 x1 x2 x5 (x4 + 1)) (fun r_11 h_11 k_2 => ?_)
      replace k_2 := Fr_trans k_1 (Fr_mono fs_X8_halvesHad__X8_led_14 k_2)
      refine pk_if (fun _ => ?_) (fun _ => ?_)
      · exact pk_mono (w_f_X8_led_101 k14 hk_k14 h_11 x1 x2 x4 x4) (fun _ k => Fr_trans k_2 k)
      · exact pk_mono (w_f_X8_led_101 k14 hk_k14 h_11 x1 x2 x3 x4) (fun _ k => Fr_trans k_2 k)
theorem w_f_X8_led_59 (k14 : HS → Int32 → Int32 → Int32 → Int32 → Option (Int32 × HS)) (hk_k14 : ∀ (h : HS) (x0 : Int32) (x1 : Int32) (x2 : Int32) (x3 : Int32), pk (k14 h x0 x1 x2 x3) (fun a => Fr S_X8_led_14 h a.2)) (h : HS) (x1 : Int32) (x2 : Int32) (x3 : Int32) (x4 : Int32) (x5 : Int32) : pk (f_X8_led_59 k14 h x1 x2 x3 x4 x5) (fun a => Fr S_X8_led_14 h a.2) := by
  unfold f_X8_led_59
  exact pk_mono (w_f_X8_led_64 k14 hk_k14 h x1 x2 x3 x4 x5 1) (fun _ k => Fr_trans (Fr_refl _ h) k)
theorem fs_X4_ofGoose__X8_led_14 : ∀ x ∈ S_X4_ofGoose, x ∈ S_X8_led_14 := by decide
theorem w_f_X8_led_14  : ∀ (n : Nat) (h : HS) (x1 : Int32) (x2 : Int32) (x3 : Int32) (x4 : Int32), pk (f_X8_led_14  n h x1 x2 x3 x4) (fun a => Fr S_X8_led_14 h a.2) := by
  intro n
  induction n with
  | zero => intro h x1 x2 x3 x4; exact pk_none
  | succ n ih =>
    intro h x1 x2 x3 x4
    rw [f_X8_led_14_s]
    refine pk_if (fun _ => ?_) (fun _ => ?_)
    · exact pk_some (Fr_refl _ h)
    · refine pk_ob2 (w_f_X4_ofGoose h x4 7) (fun r_4 h_4 k_1 => ?_)
      replace k_1 := Fr_trans (Fr_refl _ h) (Fr_mono fs_X4_ofGoose__X8_led_14 k_1)
      refine pk_if (fun _ => ?_) (fun _ => ?_)
      · exact pk_mono (w_f_X8_led_59 (f_X8_led_14 n) ih h_4 x1 x2 x3 x4 r_4) (fun _ k => Fr_trans k_1 k)
      · refine pk_ob2 (w_f_X4_ofGoose h_4 x3 7) (fun r_6 h_6 k_2 => ?_)
        replace k_2 := Fr_trans k_1 (Fr_mono fs_X4_ofGoose__X8_led_14 k_2)
        refine pk_if (fun _ => ?_) (fun _ => ?_)
        · exact pk_mono (w_f_X8_led_64 (f_X8_led_14 n) ih h_6 x1 x2 x3 x4 r_4 0) (fun _ k => Fr_trans k_2 k)
        · exact pk_mono (w_f_X8_led_59 (f_X8_led_14 n) ih h_6 x1 x2 x3 x4 r_4) (fun _ k => Fr_trans k_2 k)
def S_X8_led : CL := [(0, 6, 3), (1, 6, 1), (1, 6, 2)]
theorem fs_X8_led_14__X8_led : ∀ x ∈ S_X8_led_14, x ∈ S_X8_led := by decide
theorem w_f_X8_led (h : HS) (p1 : Int32) (p2 : Int32) : pk (f_X8_led h p1 p2) (fun a => Fr S_X8_led h a.2) := by
  unfold f_X8_led
  refine pk_obf (fun r_1 => ?_)
  refine pk_if (fun _ => ?_) (fun _ => ?_)
  · exact pk_some (Fr_refl _ h)
  · exact pk_mono (w_f_X8_led_14 8589934592 h p1 p2 (-1) 0) (fun _ k => Fr_trans (Fr_refl _ h) (Fr_mono fs_X8_led_14__X8_led k))
def S_X8_answer : CL := [(0, 6, 3), (1, 6, 1), (1, 6, 2)]
theorem fs_X8_led__X8_answer : ∀ x ∈ S_X8_led, x ∈ S_X8_answer := by decide
theorem fs_X4_ofGoose__X8_answer : ∀ x ∈ S_X4_ofGoose, x ∈ S_X8_answer := by decide
theorem fs_X4_ofMarket__X8_answer : ∀ x ∈ S_X4_ofMarket, x ∈ S_X8_answer := by decide
theorem w_f_X8_answer (h : HS) (p1 : Int32) : pk (f_X8_answer h p1) (fun a => Fr S_X8_answer h a.2) := by
  unfold f_X8_answer
  refine pk_ob2 (w_f_X8_led h p1 0) (fun r_1 h_1 k_1 => ?_)
  replace k_1 := Fr_trans (Fr_refl _ h) (Fr_mono fs_X8_led__X8_answer k_1)
  refine pk_if (fun _ => ?_) (fun _ => ?_)
  · exact pk_some k_1
  · refine pk_ob2 (w_f_X4_ofGoose h_1 r_1 7) (fun r_3 h_3 k_2 => ?_)
    replace k_2 := Fr_trans k_1 (Fr_mono fs_X4_ofGoose__X8_answer k_2)
    refine pk_ob2 (w_f_X4_ofGoose h_3 r_1 5) (fun r_4 h_4 k_3 => ?_)
    replace k_3 := Fr_trans k_2 (Fr_mono fs_X4_ofGoose__X8_answer k_3)
    refine pk_ob2 (w_f_X4_ofMarket h_4 r_4 0) (fun r_5 h_5 k_4 => ?_)
    replace k_4 := Fr_trans k_3 (Fr_mono fs_X4_ofMarket__X8_answer k_4)
    exact pk_some k_4
def S_X8_plucks_12 : CL := [(0, 6, 3), (1, 6, 1), (1, 6, 2)]
theorem fs_X1_isTrueWith__X8_plucks_12 : ∀ x ∈ S_X1_isTrueWith, x ∈ S_X8_plucks_12 := by decide
theorem w_f_X8_plucks_12  : ∀ (n : Nat) (h : HS) (x1 : Int32) (x2 : Int32) (x3 : Int32), pk (f_X8_plucks_12  n h x1 x2 x3) (fun a => Fr S_X8_plucks_12 h a.2) := by
  intro n
  induction n with
  | zero => intro h x1 x2 x3; exact pk_none
  | succ n ih =>
    intro h x1 x2 x3
    rw [f_X8_plucks_12_s]
    refine pk_if (fun _ => ?_) (fun _ => ?_)
    · exact pk_some (Fr_refl _ h)
    · refine pk_ob2 (w_f_X1_isTrueWith h x1 (x2 - x3)) (fun r_3 h_3 k_1 => ?_)
      replace k_1 := Fr_trans (Fr_refl _ h) (Fr_mono fs_X1_isTrueWith__X8_plucks_12 k_1)
      refine pk_if (fun _ => ?_) (fun _ => ?_)
      · exact pk_mono (ih h_3 x1 x2 (x3 + 1)) (fun _ k => Fr_trans k_1 k)
      · exact pk_some k_1
def S_X8_plucks : CL := [(0, 6, 3), (1, 6, 1), (1, 6, 2)]
theorem fs_X4_ofGoose__X8_plucks : ∀ x ∈ S_X4_ofGoose, x ∈ S_X8_plucks := by decide
theorem fs_X8_plucks_12__X8_plucks : ∀ x ∈ S_X8_plucks_12, x ∈ S_X8_plucks := by decide
theorem w_f_X8_plucks (h : HS) (p1 : Int32) : pk (f_X8_plucks h p1) (fun a => Fr S_X8_plucks h a.2) := by
  unfold f_X8_plucks
  refine pk_ob2 (w_f_X4_ofGoose h p1 1) (fun r_1 h_1 k_1 => ?_)
  replace k_1 := Fr_trans (Fr_refl _ h) (Fr_mono fs_X4_ofGoose__X8_plucks k_1)
  exact pk_mono (w_f_X8_plucks_12 8589934592 h_1 p1 r_1 0) (fun _ k => Fr_trans k_1 (Fr_mono fs_X8_plucks_12__X8_plucks k))
def S_X8_odds_16 : CL := []
theorem w_f_X8_odds_16 (h : HS) : pk (f_X8_odds_16 h) (fun a => Fr S_X8_odds_16 h a.2) := by
  unfold f_X8_odds_16
  exact pk_some (Fr_refl _ h)
def S_X8_odds_171 : CL := []
theorem w_f_X8_odds_171 (h : HS) (x6 : Int64) (y0 : Int64) : pk (f_X8_odds_171 h x6 y0) (fun a => Fr S_X8_odds_171 h a.2) := by
  unfold f_X8_odds_171
  refine pk_chk (fun _ => ?_)
  exact pk_some (Fr_refl _ h)
def S_X8_odds_52 : CL := [(0, 6, 3), (0, 7, 0), (1, 6, 1), (1, 6, 2), (2, 7, 1), (3, 7, 2), (3, 7, 3)]
theorem w_f_X8_odds_109 (k52 : HS → Int32 → Int32 → Int32 → Int32 → Option (Int64 × HS)) (hk_k52 : ∀ (h : HS) (x0 : Int32) (x1 : Int32) (x2 : Int32) (x3 : Int32), pk (k52 h x0 x1 x2 x3) (fun a => Fr S_X8_odds_52 h a.2)) (h : HS) (x1 : Int32) (x2 : Int32) (x3 : Int32) (x4 : Int32) : pk (f_X8_odds_109 k52 h x1 x2 x3 x4) (fun a => Fr S_X8_odds_52 h a.2) := by
  unfold f_X8_odds_109
  exact pk_mono (hk_k52 h x1 x2 x3 (x4 + 1)) (fun _ k => Fr_trans (Fr_refl _ h) k)
theorem fs_X0_upper__X8_odds_52 : ∀ x ∈ S_X0_upper, x ∈ S_X8_odds_52 := by decide
theorem fs_X8_odds_171__X8_odds_52 : ∀ x ∈ S_X8_odds_171, x ∈ S_X8_odds_52 := by decide
theorem fs_X4_ofGoose__X8_odds_52 : ∀ x ∈ S_X4_ofGoose, x ∈ S_X8_odds_52 := by decide
theorem fs_X0_add__X8_odds_52 : ∀ x ∈ S_X0_add, x ∈ S_X8_odds_52 := by decide
theorem w_f_X8_odds_52  : ∀ (n : Nat) (h : HS) (x1 : Int32) (x2 : Int32) (x3 : Int32) (x4 : Int32), pk (f_X8_odds_52  n h x1 x2 x3 x4) (fun a => Fr S_X8_odds_52 h a.2) := by
  intro n
  induction n with
  | zero => intro h x1 x2 x3 x4; exact pk_none
  | succ n ih =>
    intro h x1 x2 x3 x4
    rw [f_X8_odds_52_s]
    refine pk_if (fun _ => ?_) (fun _ => ?_)
    · refine pk_if (fun _ => ?_) (fun _ => ?_)
      · refine pk_ob2 (w_f_X0_upper h x2) (fun r_10 h_10 k_1 => ?_)
        replace k_1 := Fr_trans (Fr_refl _ h) (Fr_mono fs_X0_upper__X8_odds_52 k_1)
        refine pk_obf (fun r_11 => ?_)
        refine pk_if (fun _ => ?_) (fun _ => ?_)
        · exact pk_mono (w_f_X8_odds_171 h_10 r_11 r_10) (fun _ k => Fr_trans k_1 (Fr_mono fs_X8_odds_171__X8_odds_52 k))
        · exact pk_mono (w_f_X8_odds_171 h_10 r_11 (eL h_10 7 1)) (fun _ k => Fr_trans k_1 (Fr_mono fs_X8_odds_171__X8_odds_52 k))
      · exact pk_some (Fr_refl _ h)
    · refine pk_ob2 (w_f_X4_ofGoose h x4 4) (fun r_13 h_13 k_2 => ?_)
      replace k_2 := Fr_trans (Fr_refl _ h) (Fr_mono fs_X4_ofGoose__X8_odds_52 k_2)
      refine pk_if (fun _ => ?_) (fun _ => ?_)
      · refine pk_ob2 (w_f_X4_ofGoose h_13 x4 2) (fun r_15 h_15 k_3 => ?_)
        replace k_3 := Fr_trans k_2 (Fr_mono fs_X4_ofGoose__X8_odds_52 k_3)
        refine pk_if (fun _ => ?_) (fun _ => ?_)
        · refine pk_ob1 (w_f_X0_add h_15 x4) (fun h_17 k_4 => ?_)
          replace k_4 := Fr_trans k_3 (Fr_mono fs_X0_add__X8_odds_52 k_4)
          exact pk_mono (w_f_X8_odds_109 (f_X8_odds_52 n) ih h_17 x1 x2 x3 x4) (fun _ k => Fr_trans k_4 k)
        · exact pk_mono (w_f_X8_odds_109 (f_X8_odds_52 n) ih h_15 x1 x2 x3 x4) (fun _ k => Fr_trans k_3 k)
      · exact pk_mono (w_f_X8_odds_109 (f_X8_odds_52 n) ih h_13 x1 x2 x3 x4) (fun _ k => Fr_trans k_2 k)
def S_X8_odds : CL := [(0, 6, 3), (0, 7, 0), (1, 6, 1), (1, 6, 2), (2, 7, 1), (3, 7, 2), (3, 7, 3)]
theorem fs_X8_odds_16__X8_odds : ∀ x ∈ S_X8_odds_16, x ∈ S_X8_odds := by decide
theorem fs_X8_halvesHad__X8_odds : ∀ x ∈ S_X8_halvesHad, x ∈ S_X8_odds := by decide
theorem fs_X0_begin__X8_odds : ∀ x ∈ S_X0_begin, x ∈ S_X8_odds := by decide
theorem fs_X8_odds_52__X8_odds : ∀ x ∈ S_X8_odds_52, x ∈ S_X8_odds := by decide
theorem w_f_X8_odds (h : HS) (p1 : Int32) (p2 : Int32) (p3 : Int32) : pk (f_X8_odds h p1 p2 p3) (fun a => Fr S_X8_odds h a.2) := by
  unfold f_X8_odds
  refine pk_obf (fun r_1 => ?_)
  refine pk_if (fun _ => ?_) (fun _ => ?_)
  · exact pk_mono (w_f_X8_odds_16 h) (fun _ k => Fr_trans (Fr_refl _ h) (Fr_mono fs_X8_odds_16__X8_odds k))
  · refine pk_if (fun _ => ?_) (fun _ => ?_)
    · exact pk_mono (w_f_X8_odds_16 h) (fun _ k => Fr_trans (Fr_refl _ h) (Fr_mono fs_X8_odds_16__X8_odds k))
    · refine pk_if (fun _ => ?_) (fun _ => ?_)
      · refine pk_ob2 (w_f_X8_halvesHad h p1 0 999 10) (fun r_5 h_5 k_1 => ?_)
        replace k_1 := Fr_trans (Fr_refl _ h) (Fr_mono fs_X8_halvesHad__X8_odds k_1)
        refine pk_ob2 (w_f_X8_halvesHad h_5 p1 1 999 10) (fun r_6 h_6 k_2 => ?_)
        replace k_2 := Fr_trans k_1 (Fr_mono fs_X8_halvesHad__X8_odds k_2)
        refine pk_ob1 (w_f_X0_begin h_6 r_5 r_6) (fun h_7 k_3 => ?_)
        replace k_3 := Fr_trans k_2 (Fr_mono fs_X0_begin__X8_odds k_3)
        exact pk_mono (w_f_X8_odds_52 8589934592 h_7 p1 p2 p3 0) (fun _ k => Fr_trans k_3 (Fr_mono fs_X8_odds_52__X8_odds k))
      · exact pk_mono (w_f_X8_odds_16 h) (fun _ k => Fr_trans (Fr_refl _ h) (Fr_mono fs_X8_odds_16__X8_odds k))
def S_X8_plan_34 : CL := []
theorem w_f_X8_plan_34 (h : HS) : pk (f_X8_plan_34 h) (fun a => Fr S_X8_plan_34 h a.2) := by
  unfold f_X8_plan_34
  exact pk_some (Fr_refl _ h)
def S_X8_plan_82 : CL := []
theorem w_f_X8_plan_82 (h : HS) (y0 : Int32) : pk (f_X8_plan_82 h y0) (fun a => Fr S_X8_plan_82 h a.2) := by
  unfold f_X8_plan_82
  exact pk_some (Fr_refl _ h)
def S_X8_plan_37 : CL := [(0, 6, 3), (0, 8, 8), (0, 8, 10), (0, 8, 11), (0, 8, 12), (0, 8, 13), (0, 8, 15), (1, 6, 1), (1, 6, 2), (1, 8, 0), (1, 8, 1), (1, 8, 2), (1, 8, 3), (1, 8, 4), (1, 8, 5), (1, 8, 6), (1, 8, 7), (2, 8, 9), (2, 8, 14)]
theorem fs_X3_fewest__X8_plan_37 : ∀ x ∈ S_X3_fewest, x ∈ S_X8_plan_37 := by decide
theorem fs_X8_plan_82__X8_plan_37 : ∀ x ∈ S_X8_plan_82, x ∈ S_X8_plan_37 := by decide
theorem fs_X3_choiceOf__X8_plan_37 : ∀ x ∈ S_X3_choiceOf, x ∈ S_X8_plan_37 := by decide
theorem w_f_X8_plan_37 (h : HS) (x1 : Int32) (x2 : Int32) (x3 : Int32) : pk (f_X8_plan_37 h x1 x2 x3) (fun a => Fr S_X8_plan_37 h a.2) := by
  unfold f_X8_plan_37
  refine pk_ob2 (w_f_X3_fewest h x1 x2) (fun r_8 h_8 k_1 => ?_)
  replace k_1 := Fr_trans (Fr_refl _ h) (Fr_mono fs_X3_fewest__X8_plan_37 k_1)
  refine pk_if (fun _ => ?_) (fun _ => ?_)
  · exact pk_some k_1
  · refine pk_if (fun _ => ?_) (fun _ => ?_)
    · exact pk_mono (w_f_X8_plan_82 h_8 r_8) (fun _ k => Fr_trans k_1 (Fr_mono fs_X8_plan_82__X8_plan_37 k))
    · refine pk_ob2 (w_f_X3_choiceOf h_8 x3) (fun r_11 h_11 k_2 => ?_)
      replace k_2 := Fr_trans k_1 (Fr_mono fs_X3_choiceOf__X8_plan_37 k_2)
      exact pk_mono (w_f_X8_plan_82 h_11 r_11) (fun _ k => Fr_trans k_2 (Fr_mono fs_X8_plan_82__X8_plan_37 k))
def S_X8_plan : CL := [(0, 6, 3), (0, 8, 8), (0, 8, 10), (0, 8, 11), (0, 8, 12), (0, 8, 13), (0, 8, 15), (1, 6, 1), (1, 6, 2), (1, 8, 0), (1, 8, 1), (1, 8, 2), (1, 8, 3), (1, 8, 4), (1, 8, 5), (1, 8, 6), (1, 8, 7), (2, 8, 9), (2, 8, 14)]
theorem fs_X8_plan_34__X8_plan : ∀ x ∈ S_X8_plan_34, x ∈ S_X8_plan := by decide
theorem fs_X8_plan_37__X8_plan : ∀ x ∈ S_X8_plan_37, x ∈ S_X8_plan := by decide
theorem fs_X4_hasGoose__X8_plan : ∀ x ∈ S_X4_hasGoose, x ∈ S_X8_plan := by decide
theorem w_f_X8_plan (h : HS) (p1 : Int32) (p2 : Int32) (p3 : Int32) : pk (f_X8_plan h p1 p2 p3) (fun a => Fr S_X8_plan h a.2) := by
  unfold f_X8_plan
  refine pk_obf (fun r_1 => ?_)
  refine pk_if (fun _ => ?_) (fun _ => ?_)
  · exact pk_mono (w_f_X8_plan_34 h) (fun _ k => Fr_trans (Fr_refl _ h) (Fr_mono fs_X8_plan_34__X8_plan k))
  · refine pk_if (fun _ => ?_) (fun _ => ?_)
    · exact pk_mono (w_f_X8_plan_34 h) (fun _ k => Fr_trans (Fr_refl _ h) (Fr_mono fs_X8_plan_34__X8_plan k))
    · refine pk_if (fun _ => ?_) (fun _ => ?_)
      · exact pk_mono (w_f_X8_plan_34 h) (fun _ k => Fr_trans (Fr_refl _ h) (Fr_mono fs_X8_plan_34__X8_plan k))
      · refine pk_if (fun _ => ?_) (fun _ => ?_)
        · exact pk_mono (w_f_X8_plan_37 h p1 p2 p3) (fun _ k => Fr_trans (Fr_refl _ h) (Fr_mono fs_X8_plan_37__X8_plan k))
        · refine pk_ob2 (w_f_X4_hasGoose h p3) (fun r_6 h_6 k_1 => ?_)
          replace k_1 := Fr_trans (Fr_refl _ h) (Fr_mono fs_X4_hasGoose__X8_plan k_1)
          refine pk_if (fun _ => ?_) (fun _ => ?_)
          · exact pk_mono (w_f_X8_plan_34 h_6) (fun _ k => Fr_trans k_1 (Fr_mono fs_X8_plan_34__X8_plan k))
          · exact pk_mono (w_f_X8_plan_37 h_6 p1 p2 p3) (fun _ k => Fr_trans k_1 (Fr_mono fs_X8_plan_37__X8_plan k))
def S_X8_holds : CL := []
theorem fs_X4_dailyNeed__X8_holds : ∀ x ∈ S_X4_dailyNeed, x ∈ S_X8_holds := by decide
theorem w_f_X8_holds (h : HS) : pk (f_X8_holds h) (fun a => Fr S_X8_holds h a.2) := by
  unfold f_X8_holds
  refine pk_ob2 (w_f_X4_dailyNeed h) (fun r_1 h_1 k_1 => ?_)
  replace k_1 := Fr_trans (Fr_refl _ h) (Fr_mono fs_X4_dailyNeed__X8_holds k_1)
  refine pk_if (fun _ => ?_) (fun _ => ?_)
  · refine pk_chk (fun _ => ?_)
    exact pk_some k_1
  · exact pk_some k_1
def S_X8_image : CL := [(0, 2, 3), (0, 2, 4), (0, 2, 5), (0, 2, 6), (0, 2, 7), (0, 2, 8), (0, 2, 9), (0, 2, 10), (0, 2, 11), (0, 2, 12), (1, 2, 0), (1, 2, 1), (1, 2, 2)]
theorem fs_X4_copyFrom_i__X8_image : ∀ x ∈ S_X4_copyFrom_i, x ∈ S_X8_image := by decide
theorem w_f_X8_image (h : HS) : pk (f_X8_image h) (fun a => Fr S_X8_image h a.2) := by
  unfold f_X8_image
  refine pk_ob1 (w_f_X4_copyFrom_i h) (fun h_1 k_1 => ?_)
  replace k_1 := Fr_trans (Fr_refl _ h) (Fr_mono fs_X4_copyFrom_i__X8_image k_1)
  exact pk_some k_1
def S_X8_back : CL := [(0, 1, 3), (0, 1, 4), (0, 1, 5), (0, 1, 6), (0, 1, 7), (0, 1, 8), (0, 1, 9), (0, 1, 10), (0, 1, 11), (0, 1, 12), (1, 1, 0), (1, 1, 1), (1, 1, 2)]
theorem fs_X4_copyFrom_b__X8_back : ∀ x ∈ S_X4_copyFrom_b, x ∈ S_X8_back := by decide
theorem w_f_X8_back (h : HS) : pk (f_X8_back h) (fun a => Fr S_X8_back h a.2) := by
  unfold f_X8_back
  refine pk_ob1 (w_f_X4_copyFrom_b h) (fun h_1 k_1 => ?_)
  replace k_1 := Fr_trans (Fr_refl _ h) (Fr_mono fs_X4_copyFrom_b__X8_back k_1)
  exact pk_some k_1
def S_X8_aboutMany_44 : CL := []
theorem w_f_X8_aboutMany_44 (h : HS) : pk (f_X8_aboutMany_44 h) (fun a => Fr S_X8_aboutMany_44 h a.2) := by
  unfold f_X8_aboutMany_44
  exact pk_some (Fr_refl _ h)
def S_X8_aboutMany_24 : CL := []
theorem fs_X8_aboutMany_44__X8_aboutMany_24 : ∀ x ∈ S_X8_aboutMany_44, x ∈ S_X8_aboutMany_24 := by decide
theorem fs_X4_ofMarket__X8_aboutMany_24 : ∀ x ∈ S_X4_ofMarket, x ∈ S_X8_aboutMany_24 := by decide
theorem w_f_X8_aboutMany_24 (h : HS) (x1 : Int32) : pk (f_X8_aboutMany_24 h x1) (fun a => Fr S_X8_aboutMany_24 h a.2) := by
  unfold f_X8_aboutMany_24
  refine pk_if (fun _ => ?_) (fun _ => ?_)
  · exact pk_mono (w_f_X8_aboutMany_44 h) (fun _ k => Fr_trans (Fr_refl _ h) (Fr_mono fs_X8_aboutMany_44__X8_aboutMany_24 k))
  · refine pk_if (fun _ => ?_) (fun _ => ?_)
    · refine pk_ob2 (w_f_X4_ofMarket h (x1 - 10) 0) (fun r_6 h_6 k_1 => ?_)
      replace k_1 := Fr_trans (Fr_refl _ h) (Fr_mono fs_X4_ofMarket__X8_aboutMany_24 k_1)
      refine pk_ob2 (w_f_X4_ofMarket h_6 (x1 - 10) 1) (fun r_7 h_7 k_2 => ?_)
      replace k_2 := Fr_trans k_1 (Fr_mono fs_X4_ofMarket__X8_aboutMany_24 k_2)
      refine pk_ob2 (w_f_X4_ofMarket h_7 (x1 - 10) 2) (fun r_8 h_8 k_3 => ?_)
      replace k_3 := Fr_trans k_2 (Fr_mono fs_X4_ofMarket__X8_aboutMany_24 k_3)
      exact pk_some k_3
    · exact pk_mono (w_f_X8_aboutMany_44 h) (fun _ k => Fr_trans (Fr_refl _ h) (Fr_mono fs_X8_aboutMany_44__X8_aboutMany_24 k))
def S_X8_aboutMany : CL := []
theorem fs_X8_aboutMany_24__X8_aboutMany : ∀ x ∈ S_X8_aboutMany_24, x ∈ S_X8_aboutMany := by decide
theorem fs_X4_countFate__X8_aboutMany : ∀ x ∈ S_X4_countFate, x ∈ S_X8_aboutMany := by decide
theorem w_f_X8_aboutMany (h : HS) (p1 : Int32) : pk (f_X8_aboutMany h p1) (fun a => Fr S_X8_aboutMany h a.2) := by
  unfold f_X8_aboutMany
  refine pk_if (fun _ => ?_) (fun _ => ?_)
  · exact pk_mono (w_f_X8_aboutMany_24 h p1) (fun _ k => Fr_trans (Fr_refl _ h) (Fr_mono fs_X8_aboutMany_24__X8_aboutMany k))
  · refine pk_if (fun _ => ?_) (fun _ => ?_)
    · exact pk_mono (w_f_X8_aboutMany_24 h p1) (fun _ k => Fr_trans (Fr_refl _ h) (Fr_mono fs_X8_aboutMany_24__X8_aboutMany k))
    · refine pk_ob2 (w_f_X4_countFate h (p1 - 20)) (fun r_3 h_3 k_1 => ?_)
      replace k_1 := Fr_trans (Fr_refl _ h) (Fr_mono fs_X4_countFate__X8_aboutMany k_1)
      exact pk_some k_1
def S_X8_about : CL := []
theorem fs_X8_aboutMany__X8_about : ∀ x ∈ S_X8_aboutMany, x ∈ S_X8_about := by decide
theorem w_f_X8_about (h : HS) (p1 : Int32) : pk (f_X8_about h p1) (fun a => Fr S_X8_about h a.2) := by
  unfold f_X8_about
  refine pk_if (fun _ => ?_) (fun _ => ?_)
  · exact pk_some (Fr_refl _ h)
  · refine pk_if (fun _ => ?_) (fun _ => ?_)
    · exact pk_some (Fr_refl _ h)
    · refine pk_if (fun _ => ?_) (fun _ => ?_)
      · exact pk_some (Fr_refl _ h)
      · refine pk_if (fun _ => ?_) (fun _ => ?_)
        · exact pk_some (Fr_refl _ h)
        · refine pk_if (fun _ => ?_) (fun _ => ?_)
          · exact pk_some (Fr_refl _ h)
          · refine pk_if (fun _ => ?_) (fun _ => ?_)
            · exact pk_some (Fr_refl _ h)
            · refine pk_if (fun _ => ?_) (fun _ => ?_)
              · exact pk_some (Fr_refl _ h)
              · refine pk_if (fun _ => ?_) (fun _ => ?_)
                · exact pk_some (Fr_refl _ h)
                · refine pk_if (fun _ => ?_) (fun _ => ?_)
                  · exact pk_some (Fr_refl _ h)
                  · refine pk_if (fun _ => ?_) (fun _ => ?_)
                    · exact pk_some (Fr_refl _ h)
                    · refine pk_ob2 (w_f_X8_aboutMany h p1) (fun r_11 h_11 k_1 => ?_)
                      replace k_1 := Fr_trans (Fr_refl _ h) (Fr_mono fs_X8_aboutMany__X8_about k_1)
                      exact pk_some k_1
/-! tokens: what stands on a tape, told without either program -/
def isBl (b : Int) : Prop := b = 32 ∨ b = 10
def isAl (b : Int) : Prop := (97 ≤ b ∧ b ≤ 122) ∨ (65 ≤ b ∧ b ≤ 90)
def isNu (b : Int) : Prop := 48 ≤ b ∧ b ≤ 57
def seg (B : Int → Int) : Int → Nat → List Int
  | _, 0 => []
  | s, n + 1 => B s :: seg B (s + 1) n
def flat : List (List Int) → List Int
  | [] => []
  | w :: r => w ++ 32 :: flat r
def wf : List (List Int) → List Int → Int → Int
  | [], _, _ => 1
  | w :: r, x, k => if x = w then 16 + k else wf r x (k + 1)
def wm : List Int → Int → Int → Int
  | [], _, _ => -1
  | c :: r, v, k => if v = c then k else wm r v (k + 1)
def WL : List (List Int) := [[98, 117, 116, 99, 104, 101, 114], [114, 101, 97, 100, 101, 114], [105, 110, 107], [99, 111, 100, 101], [102, 105, 108, 108], [115, 101, 110, 100], [102, 97, 116, 116, 101, 110], [112, 97, 115, 115], [119, 105, 116, 104], [116, 111], [111, 114], [97, 110, 100], [110, 111, 116], [103, 111, 111, 115, 101], [119, 101, 105, 103, 104, 116], [102, 101, 97, 116, 104, 101, 114, 115], [108, 101, 116, 116, 101, 114], [112, 97, 114, 116], [100, 97, 121], [109, 97, 114, 107, 101, 116], [103, 114, 101, 101, 100], [101, 121, 101, 115]]
def WC : List Int := [2394252282226, 54316648818, 170923, 9369893, 10132268, 13523876, 41369684334, 12721395, 14589224, 3375, 3058, 138148, 191476, 666828005, 59687467572, 169704704597171, 47879244146, 12721332, 149625, 48885315956, 667572580, 9935219]
def WB : List Int := gWb.map (fun c => (c &&& 255).toInt)
theorem WB_flat : WB = flat WL := by decide +kernel
theorem WB_len : WB.length = 121 := by decide +kernel
def wkind (x : List Int) : Int := wf WL x 0
def scan : List Int → List Int → List Int → Bool → Int → Int
  | [], _, _, _, _ => 1
  | c :: cs, x, rm, sm, k => if c = 32 then (if sm = true ∧ rm = [] then 16 + k else scan cs x x true (k + 1)) else
      (match rm with
      | [] => scan cs x [] false k
      | b :: r => scan cs x r (sm && decide (b = c)) k)
theorem scan_bl (cs x rm : List Int) (sm : Bool) (k : Int) : scan (32 :: cs) x rm sm k = if sm = true ∧ rm = [] then 16 + k else scan cs x x true (k + 1) := by
  simp [scan]
theorem scan_c0 {c : Int} (hc : ¬ c = 32) (cs x : List Int) (sm : Bool) (k : Int) : scan (c :: cs) x [] sm k = scan cs x [] false k := by
  simp [scan, hc]
theorem scan_c1 {c : Int} (hc : ¬ c = 32) (cs x r : List Int) (b : Int) (sm : Bool) (k : Int) : scan (c :: cs) x (b :: r) sm k = scan cs x r (sm && decide (b = c)) k := by
  simp [scan, hc]
theorem scan_word : ∀ (w rest x rm : List Int) (sm : Bool) (k : Int), (∀ c ∈ w, ¬ c = 32) → scan (w ++ 32 :: rest) x rm sm k = if sm = true ∧ rm = w then 16 + k else scan rest x x true (k + 1) := by
  intro w
  induction w with
  | nil => intro rest x rm sm k _; exact scan_bl rest x rm sm k
  | cons c w ih =>
    intro rest x rm sm k hw
    have hc : ¬ c = 32 := hw c List.mem_cons_self
    have hw' : ∀ d ∈ w, ¬ d = 32 := fun d hd => hw d (List.mem_cons_of_mem _ hd)
    cases rm with
    | nil =>
      rw [List.cons_append, scan_c0 hc, ih _ _ _ _ _ hw', if_neg (by simp), if_neg (by simp)]
    | cons b r =>
      rw [List.cons_append, scan_c1 hc, ih _ _ _ _ _ hw']
      by_cases h1 : sm = true
      · by_cases h2 : b = c
        · subst h2
          by_cases h3 : r = w
          · rw [if_pos (by simp [h1, h3]), if_pos (by simp [h1, h3])]
          · rw [if_neg (by simp [h3]), if_neg (by simp [h3])]
        · rw [if_neg (by simp [h2]), if_neg (by simp [h2])]
      · rw [if_neg (by simp [h1]), if_neg (by simp [h1])]
theorem scan_flat : ∀ (ws : List (List Int)) (x : List Int) (k : Int), (∀ w ∈ ws, ∀ c ∈ w, ¬ c = 32) → scan (flat ws) x x true k = wf ws x k := by
  intro ws
  induction ws with
  | nil => intro x k _; rfl
  | cons w r ih =>
    intro x k hw
    show scan (w ++ 32 :: flat r) x x true k = if x = w then 16 + k else wf r x (k + 1)
    rw [scan_word w _ _ _ _ _ (hw w List.mem_cons_self), ih x (k + 1) (fun v hv => hw v (List.mem_cons_of_mem _ hv))]
    by_cases h : x = w
    · rw [if_pos ⟨rfl, h⟩, if_pos h]
    · rw [if_neg (fun q => h q.2), if_neg h]
theorem scan_WB (x : List Int) : scan WB x x true 0 = wkind x := by
  rw [WB_flat]
  exact scan_flat WL x 0 (by decide +kernel)
theorem wf_rng : ∀ (ws : List (List Int)) (x : List Int) (k : Int), wf ws x k = 1 ∨ (16 + k ≤ wf ws x k ∧ wf ws x k < 16 + k + (ws.length : Int)) := by
  intro ws
  induction ws with
  | nil => intro x k; exact Or.inl rfl
  | cons w r ih =>
    intro x k
    show (if x = w then 16 + k else wf r x (k + 1)) = 1 ∨ (16 + k ≤ (if x = w then 16 + k else wf r x (k + 1)) ∧ (if x = w then 16 + k else wf r x (k + 1)) < 16 + k + ((w :: r).length : Int))
    rw [List.length_cons]
    by_cases h : x = w
    · rw [if_pos h]; right; omega
    · rw [if_neg h]
      rcases ih x (k + 1) with e | e
      · exact Or.inl e
      · right; omega
theorem wkind_rng (x : List Int) : wkind x = 1 ∨ (16 ≤ wkind x ∧ wkind x ≤ 37) := by
  have h := wf_rng WL x 0
  have l : (WL.length : Int) = 22 := by decide +kernel
  unfold wkind
  omega
theorem wf_long : ∀ (ws : List (List Int)) (x : List Int) (k : Int), (∀ w ∈ ws, w.length ≤ 8) → 8 < x.length → wf ws x k = 1 := by
  intro ws
  induction ws with
  | nil => intro x k _ _; rfl
  | cons w r ih =>
    intro x k hw hx
    show (if x = w then 16 + k else wf r x (k + 1)) = 1
    rw [if_neg (fun e => by have := hw w List.mem_cons_self; rw [← e] at this; omega)]
    exact ih x (k + 1) (fun v hv => hw v (List.mem_cons_of_mem _ hv)) hx
theorem wkind_long {x : List Int} (h : 8 < x.length) : wkind x = 1 := wf_long WL x 0 (by decide +kernel) h
def encA : Int → List Int → Int
  | a, [] => a
  | a, b :: r => encA (64 * a + b - 64) r
def encR : List Int → Int
  | [] => 0
  | b :: r => 64 * encR r + (b - 64)
theorem encA_R : ∀ (x y : List Int), encA (encR y) x = encR (x.reverse ++ y) := by
  intro x
  induction x with
  | nil => intro y; rfl
  | cons b r ih =>
    intro y
    show encA (64 * encR y + b - 64) r = _
    have e : 64 * encR y + b - 64 = encR (b :: y) := by show _ = 64 * encR y + (b - 64); omega
    rw [e, ih (b :: y), List.reverse_cons, List.append_assoc]
    rfl
def DG (x : List Int) : Prop := ∀ b ∈ x, 65 ≤ b ∧ b ≤ 122
theorem encR_nn : ∀ (x : List Int), DG x → 0 ≤ encR x := by
  intro x
  induction x with
  | nil => intro _; exact Int.le_refl 0
  | cons b r ih =>
    intro h
    have h1 := ih (fun c hc => h c (List.mem_cons_of_mem _ hc))
    have h2 := h b List.mem_cons_self
    show 0 ≤ 64 * encR r + (b - 64)
    omega
theorem encR_inj : ∀ (x y : List Int), DG x → DG y → encR x = encR y → x = y := by
  intro x
  induction x with
  | nil =>
    intro y _ hy e
    cases y with
    | nil => rfl
    | cons b r =>
      exfalso
      have h1 := encR_nn r (fun c hc => hy c (List.mem_cons_of_mem _ hc))
      have h2 := hy b List.mem_cons_self
      have e : (0 : Int) = 64 * encR r + (b - 64) := e
      omega
  | cons a x ih =>
    intro y hx hy e
    have h3 := encR_nn x (fun c hc => hx c (List.mem_cons_of_mem _ hc))
    have h4 := hx a List.mem_cons_self
    cases y with
    | nil =>
      exfalso
      have e : 64 * encR x + (a - 64) = (0 : Int) := e
      omega
    | cons b r =>
      have h2 := hy b List.mem_cons_self
      have e : 64 * encR x + (a - 64) = 64 * encR r + (b - 64) := e
      have e1 : encR x = encR r := by omega
      have e2 : a = b := by omega
      rw [ih r (fun c hc => hx c (List.mem_cons_of_mem _ hc)) (fun c hc => hy c (List.mem_cons_of_mem _ hc)) e1, e2]
theorem encA_inj {x y : List Int} (hx : DG x) (hy : DG y) (e : encA 0 x = encA 0 y) : x = y := by
  have e1 : encA (encR []) x = encA (encR []) y := e
  rw [encA_R, encA_R, List.append_nil, List.append_nil] at e1
  have := encR_inj _ _ (fun b hb => hx b (List.mem_reverse.mp hb)) (fun b hb => hy b (List.mem_reverse.mp hb)) e1
  exact List.reverse_inj.mp this
theorem wm_wf : ∀ (ws : List (List Int)) (x : List Int) (k : Int), DG x → (∀ w ∈ ws, DG w) → 0 ≤ k → (wm (ws.map (encA 0)) (encA 0 x) k = -1 ∧ wf ws x k = 1) ∨ (k ≤ wm (ws.map (encA 0)) (encA 0 x) k ∧ wf ws x k = 16 + wm (ws.map (encA 0)) (encA 0 x) k) := by
  intro ws
  induction ws with
  | nil => intro x k _ _ _; exact Or.inl ⟨rfl, rfl⟩
  | cons w r ih =>
    intro x k hx hw hk
    show ((if encA 0 x = encA 0 w then k else wm (r.map (encA 0)) (encA 0 x) (k + 1)) = -1 ∧ (if x = w then 16 + k else wf r x (k + 1)) = 1) ∨ (k ≤ (if encA 0 x = encA 0 w then k else wm (r.map (encA 0)) (encA 0 x) (k + 1)) ∧ (if x = w then 16 + k else wf r x (k + 1)) = 16 + (if encA 0 x = encA 0 w then k else wm (r.map (encA 0)) (encA 0 x) (k + 1)))
    by_cases h : x = w
    · rw [if_pos h, if_pos (by rw [h])]; right; omega
    · rw [if_neg h, if_neg (fun e => h (encA_inj hx (hw w List.mem_cons_self) e))]
      rcases ih x (k + 1) hx (fun v hv => hw v (List.mem_cons_of_mem _ hv)) (by omega) with e | e
      · exact Or.inl e
      · right; omega
theorem WC_WL : WC = WL.map (encA 0) := by decide +kernel
theorem WL_DG : ∀ w ∈ WL, DG w := by
  have h : ∀ w ∈ WL, ∀ b ∈ w, 65 ≤ b ∧ b ≤ 122 := by decide +kernel
  exact h
theorem lg_eq {x y : Int64} : lg_cmp x y = 0 ↔ x.toInt = y.toInt := by
  unfold lg_cmp
  constructor
  · intro h
    by_cases c1 : x > y
    · rw [if_pos c1] at h; exact absurd h (by decide)
    · rw [if_neg c1] at h
      by_cases c2 : x = y
      · rw [c2]
      · rw [if_neg c2] at h; exact absurd h (by decide)
  · intro h
    have e : x = y := Int64.toInt_inj.mp h
    subst e
    by_cases c1 : x > x
    · exact absurd (Int64.lt_iff_toInt_lt.mp c1) (by omega)
    · rw [if_neg c1, if_pos rfl]
theorem wo_step {p1 C : Int64} {c k : Int} {K : Int32} {r : List Int} {x : Option Int32} (hc : C.toInt = c) (hk : K.toInt = k) (h : pk x (fun a => a.toInt = wm r p1.toInt (k + 1))) : pk (if lg_cmp p1 C = 0 then some K else x) (fun a => a.toInt = wm (c :: r) p1.toInt k) := by
  refine pk_if (fun e => pk_some ?_) (fun e => ?_)
  · show K.toInt = if p1.toInt = c then k else wm r p1.toInt (k + 1)
    rw [if_pos ((lg_eq.mp e).trans hc), hk]
  · refine pk_mono h (fun a ha => ?_)
    show a.toInt = if p1.toInt = c then k else wm r p1.toInt (k + 1)
    rw [if_neg (fun q => e (lg_eq.mpr (q.trans hc.symm)))]
    exact ha
set_option maxRecDepth 100000 in
theorem mx_wordOf (p1 : Int64) : pk (f_X9_wordOf p1) (fun a => a.toInt = wm WC p1.toInt 0) := by
  unfold f_X9_wordOf WC
  refine wo_step rfl rfl ?_
  refine wo_step rfl rfl ?_
  refine wo_step rfl rfl ?_
  refine wo_step rfl rfl ?_
  refine wo_step rfl rfl ?_
  refine wo_step rfl rfl ?_
  refine wo_step rfl rfl ?_
  refine wo_step rfl rfl ?_
  refine wo_step rfl rfl ?_
  refine wo_step rfl rfl ?_
  refine wo_step rfl rfl ?_
  refine wo_step rfl rfl ?_
  refine wo_step rfl rfl ?_
  refine wo_step rfl rfl ?_
  refine wo_step rfl rfl ?_
  refine wo_step rfl rfl ?_
  refine wo_step rfl rfl ?_
  refine wo_step rfl rfl ?_
  refine wo_step rfl rfl ?_
  refine wo_step rfl rfl ?_
  refine wo_step rfl rfl ?_
  refine wo_step rfl rfl ?_
  exact pk_some rfl
def nvC : Int → List Int → Int
  | a, [] => a
  | a, b :: r => nvC (if a * 10 + b - 48 < 10000 then a * 10 + b - 48 else 10000) r
def nvM : Int → List Int → Int
  | a, [] => a
  | a, b :: r => nvM (if a ≤ 99999 then 10 * a + b - 48 else a) r
def NR (v t : Int) : Prop := (v = t ∧ 0 ≤ t ∧ t ≤ 9999) ∨ (v = 10000 ∧ 10000 ≤ t ∧ t ≤ 1000000)
theorem nv_rel : ∀ (x : List Int) (a b : Int), (∀ c ∈ x, isNu c) → NR a b → NR (nvC a x) (nvM b x) := by
  intro x
  induction x with
  | nil => intro a b _ h; exact h
  | cons d r ih =>
    intro a b hx h
    have hd := hx d List.mem_cons_self
    refine ih _ _ (fun c hc => hx c (List.mem_cons_of_mem _ hc)) ?_
    unfold NR isNu at *
    by_cases c1 : a * 10 + d - 48 < 10000
    · rw [if_pos c1]
      by_cases c2 : b ≤ 99999
      · rw [if_pos c2]; omega
      · rw [if_neg c2]; omega
    · rw [if_neg c1]
      by_cases c2 : b ≤ 99999
      · rw [if_pos c2]; omega
      · rw [if_neg c2]; omega
def skind (b : Int) : Int := if b = 60 then 3 else if b = 62 then 5 else if b = 61 then 7 else if b = 35 then 8 else if b = 43 then 9 else if b = 45 then 10 else if b = 42 then 11 else if b = 47 then 12 else if b = 40 then 13 else if b = 41 then 14 else if b = 59 then 15 else 1
theorem skind_spec (b : Int) : (b = 60 ∧ skind b = 3) ∨ (b = 62 ∧ skind b = 5) ∨ (b = 61 ∧ skind b = 7) ∨ (b = 35 ∧ skind b = 8) ∨ (b = 43 ∧ skind b = 9) ∨ (b = 45 ∧ skind b = 10) ∨ (b = 42 ∧ skind b = 11) ∨ (b = 47 ∧ skind b = 12) ∨ (b = 40 ∧ skind b = 13) ∨ (b = 41 ∧ skind b = 14) ∨ (b = 59 ∧ skind b = 15) ∨ ((¬ b = 60 ∧ ¬ b = 62 ∧ ¬ b = 61 ∧ ¬ b = 35 ∧ ¬ b = 43 ∧ ¬ b = 45 ∧ ¬ b = 42 ∧ ¬ b = 47 ∧ ¬ b = 40 ∧ ¬ b = 41 ∧ ¬ b = 59) ∧ skind b = 1) := by
  unfold skind
  by_cases h0 : b = 60
  · rw [if_pos h0]; exact Or.inl ⟨h0, rfl⟩
  rw [if_neg h0]
  by_cases h1 : b = 62
  · rw [if_pos h1]; exact Or.inr (Or.inl ⟨h1, rfl⟩)
  rw [if_neg h1]
  by_cases h2 : b = 61
  · rw [if_pos h2]; exact Or.inr (Or.inr (Or.inl ⟨h2, rfl⟩))
  rw [if_neg h2]
  by_cases h3 : b = 35
  · rw [if_pos h3]; exact Or.inr (Or.inr (Or.inr (Or.inl ⟨h3, rfl⟩)))
  rw [if_neg h3]
  by_cases h4 : b = 43
  · rw [if_pos h4]; exact Or.inr (Or.inr (Or.inr (Or.inr (Or.inl ⟨h4, rfl⟩))))
  rw [if_neg h4]
  by_cases h5 : b = 45
  · rw [if_pos h5]; exact Or.inr (Or.inr (Or.inr (Or.inr (Or.inr (Or.inl ⟨h5, rfl⟩)))))
  rw [if_neg h5]
  by_cases h6 : b = 42
  · rw [if_pos h6]; exact Or.inr (Or.inr (Or.inr (Or.inr (Or.inr (Or.inr (Or.inl ⟨h6, rfl⟩))))))
  rw [if_neg h6]
  by_cases h7 : b = 47
  · rw [if_pos h7]; exact Or.inr (Or.inr (Or.inr (Or.inr (Or.inr (Or.inr (Or.inr (Or.inl ⟨h7, rfl⟩)))))))
  rw [if_neg h7]
  by_cases h8 : b = 40
  · rw [if_pos h8]; exact Or.inr (Or.inr (Or.inr (Or.inr (Or.inr (Or.inr (Or.inr (Or.inr (Or.inl ⟨h8, rfl⟩))))))))
  rw [if_neg h8]
  by_cases h9 : b = 41
  · rw [if_pos h9]; exact Or.inr (Or.inr (Or.inr (Or.inr (Or.inr (Or.inr (Or.inr (Or.inr (Or.inr (Or.inl ⟨h9, rfl⟩)))))))))
  rw [if_neg h9]
  by_cases h10 : b = 59
  · rw [if_pos h10]; exact Or.inr (Or.inr (Or.inr (Or.inr (Or.inr (Or.inr (Or.inr (Or.inr (Or.inr (Or.inr (Or.inl ⟨h10, rfl⟩))))))))))
  rw [if_neg h10]
  exact Or.inr (Or.inr (Or.inr (Or.inr (Or.inr (Or.inr (Or.inr (Or.inr (Or.inr (Or.inr (Or.inr (⟨⟨h0, h1, h2, h3, h4, h5, h6, h7, h8, h9, h10⟩, rfl⟩)))))))))))
theorem skind_rng (b : Int) : 1 ≤ skind b ∧ skind b ≤ 15 := by
  have := skind_spec b
  omega
def TokL (B : Int → Int) (L s : Int) : Prop := (skind (B s) = 3 ∨ skind (B s) = 5) ∧ s + 1 < L ∧ B (s + 1) = 61
def TokE (L k s q : Int) : Prop := s = L ∧ k = 0 ∧ q = L
def TokW (B : Int → Int) (L k s q : Int) : Prop := s < L ∧ isAl (B s) ∧ s < q ∧ q ≤ L ∧ (∀ j : Int, s ≤ j → j < q → isAl (B j)) ∧ (q = L ∨ ¬ isAl (B q)) ∧ k = wkind (seg B s (q - s).toNat)
def TokN (B : Int → Int) (L k s v q : Int) : Prop := s < L ∧ isNu (B s) ∧ s < q ∧ q ≤ L ∧ (∀ j : Int, s ≤ j → j < q → isNu (B j)) ∧ (q = L ∨ ¬ isNu (B q)) ∧ k = 2 ∧ v = nvC 0 (seg B s (q - s).toNat)
def TokS (B : Int → Int) (L k s q : Int) : Prop := s < L ∧ ¬ isBl (B s) ∧ ¬ isAl (B s) ∧ ¬ isNu (B s) ∧ ((TokL B L s ∧ k = skind (B s) + 1 ∧ q = s + 2) ∨ (¬ TokL B L s ∧ k = skind (B s) ∧ q = s + 1))
def Tok (B : Int → Int) (L p k s v q : Int) : Prop := p ≤ s ∧ s ≤ L ∧ (∀ j : Int, p ≤ j → j < s → isBl (B j)) ∧ (TokE L k s q ∨ TokW B L k s q ∨ TokN B L k s v q ∨ TokS B L k s q)
def SG (k t : Int) : Prop := (k = 3 ∧ t = 60) ∨ (k = 4 ∧ t = 300) ∨ (k = 5 ∧ t = 62) ∨ (k = 6 ∧ t = 301) ∨ (k = 7 ∧ t = 61) ∨ (k = 8 ∧ t = 35) ∨ (k = 9 ∧ t = 43) ∨ (k = 10 ∧ t = 45) ∨ (k = 11 ∧ t = 42) ∨ (k = 12 ∧ t = 47) ∨ (k = 13 ∧ t = 40) ∨ (k = 14 ∧ t = 41) ∨ (k = 15 ∧ t = 59)
def TK (k v so t : Int) : Prop := (k = 0 ∧ so = 0) ∨ (k = 2 ∧ so = 2 ∧ NR v t) ∨ (16 ≤ k ∧ k ≤ 37 ∧ so = 1 ∧ t = k - 16) ∨ (k = 1 ∧ (so = 4 ∨ (so = 3 ∧ t = 44))) ∨ (so = 3 ∧ SG k t)
theorem seg_len (B : Int → Int) : ∀ (n : Nat) (s : Int), (seg B s n).length = n := by
  intro n
  induction n with
  | zero => intro s; rfl
  | succ n ih => intro s; show (seg B (s + 1) n).length + 1 = n + 1; rw [ih]
theorem seg_all {B : Int → Int} {P : Int → Prop} : ∀ (n : Nat) (s : Int), (∀ j : Int, s ≤ j → j < s + (n : Int) → P (B j)) → ∀ b ∈ seg B s n, P b := by
  intro n
  induction n with
  | zero => intro s _ b hb; exact absurd hb List.not_mem_nil
  | succ n ih =>
    intro s h b hb
    rcases List.mem_cons.mp hb with e | hb
    · rw [e]; exact h s (by omega) (by omega)
    · exact ih (s + 1) (fun j h1 h2 => h j (by omega) (by omega)) b hb
/-! the class's tokens -/
def cB (h : HS) (j : Int) : Int := (eA h 3 0 j.toNat).toInt
def cL (h : HS) : Int := (eI h 3 1).toInt
theorem cx_byteAt {h : HS} {x : Int32} {z : Int32 × HS} (e : f_X5_byteAt h x = some z) (hL : cL h ≤ 300) : z.2 = h ∧ ((0 ≤ x.toInt ∧ x.toInt < cL h ∧ z.1.toInt = cB h x.toInt) ∨ (¬ (0 ≤ x.toInt ∧ x.toInt < cL h) ∧ z.1 = 0)) := by
  have z0 : (0 : Int32).toInt = 0 := rfl
  have z300 : (300 : Int32).toInt = 300 := rfl
  unfold cL at *
  unfold f_X5_byteAt f_X5_byteAt_30 f_X5_byteAt_31 at e
  by_cases c1 : x < 0
  · rw [if_pos c1] at e; cases e
    exact ⟨rfl, Or.inr ⟨by have := gi_of_lt c1; omega, rfl⟩⟩
  · rw [if_neg c1] at e
    have d1 := gi_of_nlt c1
    by_cases c2 : eI h 3 1 ≤ x
    · rw [if_pos c2] at e; cases e
      exact ⟨rfl, Or.inr ⟨by have := gi_of_le c2; omega, rfl⟩⟩
    · rw [if_neg c2] at e
      have d2 := gi_of_nle c2
      rw [if_neg (fun c => by have := gi_of_le c; omega)] at e
      obtain ⟨-, e⟩ := ob_if e
      cases e
      exact ⟨rfl, Or.inl ⟨by omega, by omega, by show (eA h 3 0 x.toNatClampNeg).toInt = _; rw [Int32.toNatClampNeg]; rfl⟩⟩
theorem cx_isBlank {x r : Int32} (e : f_X7_isBlank x = some r) : (r = 0 ∧ ¬ isBl x.toInt) ∨ (r = 1 ∧ isBl x.toInt) := by
  have z1 : (32 : Int32).toInt = 32 := rfl
  have z2 : (10 : Int32).toInt = 10 := rfl
  unfold f_X7_isBlank f_X7_isBlank_12 f_X7_isBlank_17 at e
  unfold isBl
  by_cases c1 : x = 32
  · rw [if_pos c1] at e; cases e
    exact Or.inr ⟨rfl, by have := gi_of_eq c1; omega⟩
  · rw [if_neg c1] at e
    by_cases c2 : x = 10
    · rw [if_pos c2] at e; cases e
      exact Or.inr ⟨rfl, by have := gi_of_eq c2; omega⟩
    · rw [if_neg c2] at e; cases e
      exact Or.inl ⟨rfl, by have := gi_of_ne c1; have := gi_of_ne c2; omega⟩
theorem cx_isAlpha {x r : Int32} (e : f_X7_isAlpha x = some r) : (r = 0 ∧ ¬ isAl x.toInt) ∨ (r = 1 ∧ isAl x.toInt) := by
  have z1 : (97 : Int32).toInt = 97 := rfl
  have z2 : (122 : Int32).toInt = 122 := rfl
  have z3 : (65 : Int32).toInt = 65 := rfl
  have z4 : (90 : Int32).toInt = 90 := rfl
  unfold f_X7_isAlpha f_X7_isAlpha_12 f_X7_isAlpha_24 f_X7_isAlpha_28 f_X7_isAlpha_29 at e
  unfold isAl
  by_cases c1 : x < 97
  · rw [if_pos c1] at e
    have d1 := gi_of_lt c1
    by_cases c3 : x < 65
    · rw [if_pos c3] at e; cases e
      exact Or.inl ⟨rfl, by have := gi_of_lt c3; omega⟩
    · rw [if_neg c3] at e
      by_cases c4 : 90 < x
      · rw [if_pos c4] at e; cases e
        exact Or.inl ⟨rfl, by have := gi_of_lt c4; omega⟩
      · rw [if_neg c4] at e; cases e
        exact Or.inr ⟨rfl, by have := gi_of_nlt c3; have := gi_of_nlt c4; omega⟩
  · rw [if_neg c1] at e
    have d1 := gi_of_nlt c1
    by_cases c2 : x ≤ 122
    · rw [if_pos c2] at e; cases e
      exact Or.inr ⟨rfl, by have := gi_of_le c2; omega⟩
    · rw [if_neg c2] at e
      have d2 := gi_of_nle c2
      by_cases c3 : x < 65
      · exact absurd (gi_of_lt c3) (by omega)
      · rw [if_neg c3] at e
        by_cases c4 : 90 < x
        · rw [if_pos c4] at e; cases e
          exact Or.inl ⟨rfl, by omega⟩
        · exact absurd (gi_of_nlt c4) (by omega)
theorem cx_isNumeral {x r : Int32} (e : f_X7_isNumeral x = some r) : (r = 0 ∧ ¬ isNu x.toInt) ∨ (r = 1 ∧ isNu x.toInt) := by
  have z1 : (48 : Int32).toInt = 48 := rfl
  have z2 : (57 : Int32).toInt = 57 := rfl
  unfold f_X7_isNumeral f_X7_isNumeral_16 f_X7_isNumeral_17 at e
  unfold isNu
  by_cases c1 : x < 48
  · rw [if_pos c1] at e; cases e
    exact Or.inl ⟨rfl, by have := gi_of_lt c1; omega⟩
  · rw [if_neg c1] at e
    by_cases c2 : 57 < x
    · rw [if_pos c2] at e; cases e
      exact Or.inl ⟨rfl, by have := gi_of_lt c2; omega⟩
    · rw [if_neg c2] at e; cases e
      exact Or.inr ⟨rfl, by have := gi_of_nlt c1; have := gi_of_nlt c2; omega⟩
theorem cx_signKind {x r : Int32} (e : f_X7_signKind x = some r) : r.toInt = skind x.toInt := by
  have key : ∀ n : Fin 30, f_X7_signKind (Int32.ofInt ((n.val : Int) + 34)) = some (Int32.ofInt (skind ((n.val : Int) + 34))) := by decide +kernel
  by_cases h : 34 ≤ x.toInt ∧ x.toInt < 64
  · obtain ⟨m, hm⟩ := Int.eq_ofNat_of_zero_le (show 0 ≤ x.toInt - 34 by omega)
    have k := key ⟨m, by omega⟩
    have ex : x = Int32.ofInt ((m : Int) + 34) := by rw [← Int32.ofInt_toInt x]; congr 1; omega
    have k2 : f_X7_signKind x = some (Int32.ofInt (skind ((m : Int) + 34))) := by rw [ex]; exact k
    rw [k2] at e
    cases e
    have hx : x.toInt = (m : Int) + 34 := by omega
    rw [hx]
    have key2 : ∀ n : Fin 30, (Int32.ofInt (skind ((n.val : Int) + 34))).toInt = skind ((n.val : Int) + 34) := by decide +kernel
    exact key2 ⟨m, by omega⟩
  · have ne : ∀ (c : Int32), 34 ≤ c.toInt → c.toInt < 64 → ¬ x = c := fun c h1 h2 q => h (by rw [q]; exact ⟨h1, h2⟩)
    unfold f_X7_signKind at e
    rw [if_neg (ne 35 (by decide) (by decide)), if_neg (ne 36 (by decide) (by decide)), if_neg (ne 37 (by decide) (by decide)), if_neg (ne 38 (by decide) (by decide)), if_neg (ne 39 (by decide) (by decide)), if_neg (ne 40 (by decide) (by decide)), if_neg (ne 41 (by decide) (by decide)), if_neg (ne 42 (by decide) (by decide)), if_neg (ne 43 (by decide) (by decide)), if_neg (ne 44 (by decide) (by decide)), if_neg (ne 45 (by decide) (by decide)), if_neg (ne 46 (by decide) (by decide)), if_neg (ne 47 (by decide) (by decide)), if_neg (ne 48 (by decide) (by decide)), if_neg (ne 49 (by decide) (by decide)), if_neg (ne 50 (by decide) (by decide)), if_neg (ne 51 (by decide) (by decide)), if_neg (ne 52 (by decide) (by decide)), if_neg (ne 53 (by decide) (by decide)), if_neg (ne 54 (by decide) (by decide)), if_neg (ne 55 (by decide) (by decide)), if_neg (ne 56 (by decide) (by decide)), if_neg (ne 57 (by decide) (by decide)), if_neg (ne 58 (by decide) (by decide)), if_neg (ne 59 (by decide) (by decide)), if_neg (ne 60 (by decide) (by decide)), if_neg (ne 61 (by decide) (by decide)), if_neg (ne 62 (by decide) (by decide))] at e
    cases e
    unfold skind
    rw [if_neg (by omega), if_neg (by omega), if_neg (by omega), if_neg (by omega), if_neg (by omega), if_neg (by omega), if_neg (by omega), if_neg (by omega), if_neg (by omega), if_neg (by omega), if_neg (by omega)]
    rfl
theorem cx_add {h h' : HS} {k s v : Int32} (e : f_X7_add h k s v = some h') (h0 : 0 ≤ (eI h 4 3).toInt) (h1 : (eI h 4 3).toInt < 301) : h' = sI (sA (sA (sA h 4 0 (upd (eA h 4 0) (eI h 4 3).toInt.toNat k)) 4 1 (upd (eA h 4 1) (eI h 4 3).toInt.toNat s)) 4 2 (upd (eA h 4 2) (eI h 4 3).toInt.toNat v)) 4 3 (eI h 4 3 + 1) := by
  have z : (301 : Int32).toInt = 301 := rfl
  unfold f_X7_add f_X7_add_76 at e
  rw [if_neg (fun c => by have := gi_of_le c; omega)] at e
  obtain ⟨-, e⟩ := ob_if e
  obtain ⟨-, e⟩ := ob_if e
  obtain ⟨-, e⟩ := ob_if e
  cases e
  rfl
theorem cx_charAt {x r : Int32} {pre cs : List Int} {c : Int} (e : f_J0_charAt x = some r) (hW : WB = pre ++ c :: cs) (hx : x.toInt = (pre.length : Int)) : r.toInt = c := by
  unfold f_J0_charAt at e
  obtain ⟨-, e⟩ := ob_if e
  cases e
  have h1 : WB[pre.length]? = some c := by
    rw [hW, List.getElem?_append_right (Nat.le_refl _), Nat.sub_self]; rfl
  unfold WB at h1
  rw [List.getElem?_map] at h1
  have h2 : x.toNatClampNeg = pre.length := by rw [Int32.toNatClampNeg, hx]; rfl
  rw [h2, List.getD_eq_getElem?_getD]
  cases hg : gWb[pre.length]? with
  | none => rw [hg] at h1; cases h1
  | some a => rw [hg] at h1; exact Option.some.inj h1
theorem cx_wk {h : HS} {x1 x2 : Int32} (h1 : 0 ≤ x1.toInt) (h2 : 0 ≤ x2.toInt) (h3 : x1.toInt + x2.toInt ≤ cL h) (hL : cL h ≤ 300) : ∀ (n : Nat) (x3 x4 x5 x6 : Int32) (z : Int32 × HS) (pre cs : List Int) (k : Int), f_X7_wordKind_12 n h x1 x2 x3 x4 x5 x6 = some z → WB = pre ++ cs → x6.toInt = (pre.length : Int) → 0 ≤ x4.toInt → x4.toInt ≤ x6.toInt → x3.toInt = 16 + k → 0 ≤ k → k ≤ x6.toInt → (x5 = 0 ∨ (x5 = 1 ∧ x6.toInt - x4.toInt ≤ x2.toInt)) → z.2 = h ∧ z.1.toInt = scan cs (seg (cB h) x1.toInt x2.toInt.toNat) (seg (cB h) (x1.toInt + (x6.toInt - x4.toInt)) (x2.toInt - (x6.toInt - x4.toInt)).toNat) (decide (x5 = 1)) k := by
  have z1 : (1 : Int32).toInt = 1 := rfl
  have z32 : (32 : Int32).toInt = 32 := rfl
  have z121 : (121 : Int32).toInt = 121 := rfl
  intro n
  induction n with
  | zero => intro x3 x4 x5 x6 z pre cs k e; cases e
  | succ n ih =>
    intro x3 x4 x5 x6 z pre cs k e hW hx h40 h46 h3k hk0 hk6 h5
    have hlen := congrArg List.length hW
    rw [WB_len, List.length_append] at hlen
    rw [f_X7_wordKind_12_s] at e
    obtain ⟨r1, e1, e⟩ := ob1_some e
    unfold f_J0_length at e1
    cases e1
    by_cases c1 : (121 : Int32) ≤ x6
    · rw [if_pos c1] at e
      cases e
      have := gi_of_le c1
      have hc : cs.length = 0 := by omega
      rw [List.length_eq_zero_iff.mp hc]
      exact ⟨rfl, rfl⟩
    · rw [if_neg c1] at e
      have d1 := gi_of_nle c1
      obtain ⟨r3, e3, e⟩ := ob1_some e
      have a6 := fb_addI (x := x6) (y := 1) (by omega) (by omega)
      have a3 := fb_addI (x := x3) (y := 1) (by omega) (by omega)
      cases cs with
      | nil => rw [List.length_nil] at hlen; omega
      | cons c cs =>
        rw [List.length_cons] at hlen
        have hr := cx_charAt e3 hW hx
        have hW' : WB = (pre ++ [c]) ++ cs := by rw [hW, List.append_assoc]; rfl
        have hx' : (x6 + 1).toInt = ((pre ++ [c]).length : Int) := by rw [List.length_append]; show _ = ((pre.length + 1 : Nat) : Int); omega
        by_cases c3 : r3 = 32
        · have hc : c = 32 := by have := gi_of_eq c3; omega
          subst hc
          rw [if_pos c3] at e
          rw [scan_bl]
          have goB : ∀ (z : Int32 × HS), f_X7_wordKind_94 (f_X7_wordKind_12 n) h x1 x2 x3 x6 = some z → z.2 = h ∧ z.1.toInt = scan cs (seg (cB h) x1.toInt x2.toInt.toNat) (seg (cB h) x1.toInt x2.toInt.toNat) true (k + 1) := by
            intro z e
            unfold f_X7_wordKind_94 f_X7_wordKind_106 at e
            have q := ih (x3 + 1) (x6 + 1) 1 (x6 + 1) z (pre ++ [32]) cs (k + 1) e hW' hx' (by omega) (by omega) (by omega) (by omega) (by omega) (Or.inr ⟨rfl, by omega⟩)
            rw [show x1.toInt + ((x6 + 1).toInt - (x6 + 1).toInt) = x1.toInt by omega, show x2.toInt - ((x6 + 1).toInt - (x6 + 1).toInt) = x2.toInt by omega] at q
            exact q
          rcases h5 with h5 | ⟨h5, h56⟩
          · subst h5
            rw [if_pos rfl] at e
            rw [if_neg (by simp)]
            exact goB z e
          · subst h5
            rw [if_neg (by decide)] at e
            have s1 := fb_subI (x := x6) (y := x4) (by omega) (by omega)
            by_cases c6 : x6 - x4 = x2
            · rw [if_pos c6] at e
              cases e
              have d6 := gi_of_eq c6
              rw [show (x2.toInt - (x6.toInt - x4.toInt)).toNat = 0 by omega]
              rw [if_pos ⟨by decide, rfl⟩]
              exact ⟨rfl, h3k⟩
            · rw [if_neg c6] at e
              have d6 := gi_of_ne c6
              obtain ⟨m, hm⟩ : ∃ m : Nat, (x2.toInt - (x6.toInt - x4.toInt)).toNat = m + 1 := ⟨(x2.toInt - (x6.toInt - x4.toInt)).toNat - 1, by omega⟩
              rw [hm, if_neg (fun q => by cases q.2)]
              exact goB z e
        · have hc : ¬ c = 32 := fun q => c3 (gi_eq (by omega))
          rw [if_neg c3] at e
          have go : ∀ (y : Int32) (z : Int32 × HS), f_X7_wordKind_12 n h x1 x2 x3 x4 y (x6 + 1) = some z → (y = 0 ∨ (y = 1 ∧ (x6 + 1).toInt - x4.toInt ≤ x2.toInt)) → z.2 = h ∧ z.1.toInt = scan cs (seg (cB h) x1.toInt x2.toInt.toNat) (seg (cB h) (x1.toInt + (x6.toInt - x4.toInt) + 1) (x2.toInt - (x6.toInt - x4.toInt) - 1).toNat) (decide (y = 1)) k := by
            intro y z e hy
            have q := ih x3 x4 y (x6 + 1) z (pre ++ [c]) cs k e hW' hx' h40 (by omega) h3k hk0 (by omega) hy
            rw [show x1.toInt + ((x6 + 1).toInt - x4.toInt) = x1.toInt + (x6.toInt - x4.toInt) + 1 by omega, show x2.toInt - ((x6 + 1).toInt - x4.toInt) = x2.toInt - (x6.toInt - x4.toInt) - 1 by omega] at q
            exact q
          have s1 := fb_subI (x := x6) (y := x4) (by omega) (by omega)
          have no : ∀ (sm : Bool) (z : Int32 × HS), f_X7_wordKind_12 n h x1 x2 x3 x4 0 (x6 + 1) = some z → (sm = false ∨ x2.toInt ≤ x6.toInt - x4.toInt) → z.2 = h ∧ z.1.toInt = scan (c :: cs) (seg (cB h) x1.toInt x2.toInt.toNat) (seg (cB h) (x1.toInt + (x6.toInt - x4.toInt)) (x2.toInt - (x6.toInt - x4.toInt)).toNat) sm k := by
            intro sm z e hs
            have q := go 0 z e (Or.inl rfl)
            by_cases c7 : x2.toInt ≤ x6.toInt - x4.toInt
            · rw [show (x2.toInt - (x6.toInt - x4.toInt)).toNat = 0 by omega]
              rw [show (x2.toInt - (x6.toInt - x4.toInt) - 1).toNat = 0 by omega] at q
              show _ ∧ _ = scan (c :: cs) _ [] sm k
              rw [scan_c0 hc]
              exact q
            · have hs : sm = false := by
                rcases hs with hs | hs
                · exact hs
                · exact absurd hs c7
              subst hs
              obtain ⟨m, hm⟩ : ∃ m : Nat, (x2.toInt - (x6.toInt - x4.toInt)).toNat = m + 1 := ⟨(x2.toInt - (x6.toInt - x4.toInt)).toNat - 1, by omega⟩
              rw [hm]
              rw [show (x2.toInt - (x6.toInt - x4.toInt) - 1).toNat = m by omega] at q
              show _ ∧ _ = scan (c :: cs) _ (cB h _ :: seg (cB h) _ m) false k
              rw [scan_c1 hc, Bool.false_and]
              exact q
          rcases h5 with h5 | ⟨h5, h56⟩
          · subst h5
            rw [if_pos rfl] at e
            unfold f_X7_wordKind_72 f_X7_wordKind_73 f_X7_wordKind_106 at e
            exact no _ z e (Or.inl (by decide))
          · subst h5
            rw [if_neg (by decide)] at e
            by_cases c8 : x2 ≤ x6 - x4
            · rw [if_pos c8] at e
              unfold f_X7_wordKind_72 f_X7_wordKind_73 f_X7_wordKind_106 at e
              exact no _ z e (Or.inr (by have := gi_of_le c8; omega))
            · rw [if_neg c8] at e
              have d8 := gi_of_nle c8
              obtain ⟨r9, h9, e9, e⟩ := ob2_some e
              have s2 := fb_addI (x := x1) (y := x6) (by omega) (by omega)
              have s3 := fb_subI (x := x1 + x6) (y := x4) (by omega) (by omega)
              obtain ⟨g1, g2⟩ := cx_byteAt e9 hL
              obtain rfl : h = h9 := g1.symm
              rcases g2 with ⟨-, -, g3⟩ | ⟨g3, -⟩
              · have g3 : r9.toInt = cB h (x1 + x6 - x4).toInt := g3
                rw [show (x1 + x6 - x4).toInt = x1.toInt + (x6.toInt - x4.toInt) by omega] at g3
                by_cases c9 : r9 = r3
                · rw [if_pos c9] at e
                  unfold f_X7_wordKind_73 f_X7_wordKind_106 at e
                  have q := go 1 z e (Or.inr ⟨rfl, by omega⟩)
                  obtain ⟨m, hm⟩ : ∃ m : Nat, (x2.toInt - (x6.toInt - x4.toInt)).toNat = m + 1 := ⟨(x2.toInt - (x6.toInt - x4.toInt)).toNat - 1, by omega⟩
                  rw [hm]
                  rw [show (x2.toInt - (x6.toInt - x4.toInt) - 1).toNat = m by omega] at q
                  show _ ∧ _ = scan (c :: cs) _ (cB h _ :: seg (cB h) _ m) _ k
                  rw [scan_c1 hc, ← g3, show (decide (r9.toInt = c)) = true from decide_eq_true (by rw [c9]; exact hr), Bool.and_true]
                  exact q
                · rw [if_neg c9] at e
                  unfold f_X7_wordKind_72 f_X7_wordKind_73 f_X7_wordKind_106 at e
                  have q := go 0 z e (Or.inl rfl)
                  obtain ⟨m, hm⟩ : ∃ m : Nat, (x2.toInt - (x6.toInt - x4.toInt)).toNat = m + 1 := ⟨(x2.toInt - (x6.toInt - x4.toInt)).toNat - 1, by omega⟩
                  rw [hm]
                  rw [show (x2.toInt - (x6.toInt - x4.toInt) - 1).toNat = m by omega] at q
                  show _ ∧ _ = scan (c :: cs) _ (cB h _ :: seg (cB h) _ m) _ k
                  rw [scan_c1 hc, ← g3, show (decide (r9.toInt = c)) = false from decide_eq_false (fun y => c9 (gi_eq (by rw [hr]; exact y))), Bool.and_false]
                  exact q
              · exact absurd ⟨by omega, by omega⟩ g3
theorem cx_wordKind {h : HS} {x1 x2 : Int32} {z : Int32 × HS} (e : f_X7_wordKind h x1 x2 = some z) (h1 : 0 ≤ x1.toInt) (h2 : 0 ≤ x2.toInt) (h3 : x1.toInt + x2.toInt ≤ cL h) (hL : cL h ≤ 300) : z.2 = h ∧ z.1.toInt = wkind (seg (cB h) x1.toInt x2.toInt.toNat) := by
  unfold f_X7_wordKind at e
  have z0 : (0 : Int32).toInt = 0 := rfl
  have q := cx_wk h1 h2 h3 hL _ 16 0 1 0 z [] WB 0 e rfl rfl (by omega) (by omega) rfl (by omega) (by omega) (Or.inr ⟨rfl, by omega⟩)
  rw [show x1.toInt + ((0 : Int32).toInt - (0 : Int32).toInt) = x1.toInt by omega, show x2.toInt - ((0 : Int32).toInt - (0 : Int32).toInt) = x2.toInt by omega] at q
  rw [← scan_WB]
  exact q
/-! the class's split: each token is told by Tok -/
theorem cx_swl {h : HS} {x2 : Int32} (hL : cL h ≤ 300) : ∀ (n : Nat) (x3 : Int32) (z : Int32 × HS), f_X7_splitWord_2 n h x2 x3 = some z → 0 ≤ x3.toInt → x3.toInt ≤ cL h → ∃ y : Int32, x3.toInt ≤ y.toInt ∧ y.toInt ≤ cL h ∧ (∀ j : Int, x3.toInt ≤ j → j < y.toInt → isAl (cB h j)) ∧ (y.toInt = cL h ∨ ¬ isAl (cB h y.toInt)) ∧ f_X7_splitWord_27 h x2 y = some z := by
  have z1 : (1 : Int32).toInt = 1 := rfl
  intro n
  induction n with
  | zero => intro x3 z e; cases e
  | succ n ih =>
    intro x3 z e h0 h1
    rw [f_X7_splitWord_2_s] at e
    by_cases c1 : eI h 3 1 ≤ x3
    · rw [if_pos c1] at e
      have d1 := gi_of_le c1
      exact ⟨x3, Int.le_refl _, h1, fun j a b => absurd (show j < j by omega) (by omega), Or.inl (by unfold cL at *; omega), e⟩
    · rw [if_neg c1] at e
      have d1 : x3.toInt < cL h := gi_of_nle c1
      obtain ⟨r2, h2, e2, e⟩ := ob2_some e
      obtain ⟨g1, g2⟩ := cx_byteAt e2 hL
      obtain rfl : h = h2 := g1.symm
      rcases g2 with ⟨-, -, g2⟩ | ⟨g2, -⟩
      · have g2 : r2.toInt = cB h x3.toInt := g2
        obtain ⟨r3, e3, e⟩ := ob1_some e
        rcases cx_isAlpha e3 with ⟨rfl, q⟩ | ⟨rfl, q⟩
        · rw [if_pos rfl] at e
          exact ⟨x3, Int.le_refl _, h1, fun j a b => absurd (show j < j by omega) (by omega), Or.inr (by rw [← g2]; exact q), e⟩
        · rw [if_neg (by decide)] at e
          have a3 := fb_addI (x := x3) (y := 1) (by omega) (by omega)
          obtain ⟨y, k1, k2, k3, k4, k5⟩ := ih (x3 + 1) z e (by omega) (by omega)
          refine ⟨y, by omega, k2, fun j a b => ?_, k4, k5⟩
          by_cases c : j = x3.toInt
          · rw [c, ← g2]; exact q
          · exact k3 j (by omega) b
      · exact absurd ⟨h0, d1⟩ g2
theorem cx_snl {h : HS} {x2 : Int32} (hL : cL h ≤ 300) : ∀ (n : Nat) (x3 x4 : Int32) (z : Int32 × HS), f_X7_splitNumber_5 n h x2 x3 x4 = some z → 0 ≤ x3.toInt → x3.toInt ≤ cL h → 0 ≤ x4.toInt → x4.toInt ≤ 10000 → ∃ (y v : Int32), x3.toInt ≤ y.toInt ∧ y.toInt ≤ cL h ∧ (∀ j : Int, x3.toInt ≤ j → j < y.toInt → isNu (cB h j)) ∧ (y.toInt = cL h ∨ ¬ isNu (cB h y.toInt)) ∧ v.toInt = nvC x4.toInt (seg (cB h) x3.toInt (y.toInt - x3.toInt).toNat) ∧ f_X7_splitNumber_52 h x2 y v = some z := by
  have z1 : (1 : Int32).toInt = 1 := rfl
  have z48 : (48 : Int32).toInt = 48 := rfl
  have z4 : (10000 : Int32).toInt = 10000 := rfl
  intro n
  induction n with
  | zero => intro x3 x4 z e; cases e
  | succ n ih =>
    intro x3 x4 z e h0 h1 h2 h3
    rw [f_X7_splitNumber_5_s] at e
    by_cases c1 : eI h 3 1 ≤ x3
    · rw [if_pos c1] at e
      have d1 := gi_of_le c1
      refine ⟨x3, x4, Int.le_refl _, h1, fun j a b => absurd (show j < j by omega) (by omega), Or.inl (by unfold cL at *; omega), ?_, e⟩
      rw [show (x3.toInt - x3.toInt).toNat = 0 by omega]; rfl
    · rw [if_neg c1] at e
      have d1 : x3.toInt < cL h := gi_of_nle c1
      obtain ⟨r2, h2', e2, e⟩ := ob2_some e
      obtain ⟨g1, g2⟩ := cx_byteAt e2 hL
      obtain rfl : h = h2' := g1.symm
      rcases g2 with ⟨-, -, g2⟩ | ⟨g2, -⟩
      · have g2 : r2.toInt = cB h x3.toInt := g2
        obtain ⟨r3, e3, e⟩ := ob1_some e
        rcases cx_isNumeral e3 with ⟨rfl, q⟩ | ⟨rfl, q⟩
        · rw [if_pos rfl] at e
          refine ⟨x3, x4, Int.le_refl _, h1, fun j a b => absurd (show j < j by omega) (by omega), Or.inr (by rw [← g2]; exact q), ?_, e⟩
          rw [show (x3.toInt - x3.toInt).toNat = 0 by omega]; rfl
        · rw [if_neg (by decide)] at e
          obtain ⟨r5, h5, e5, e⟩ := ob2_some e
          obtain ⟨g3, g4⟩ := cx_byteAt e5 hL
          obtain rfl : h = h5 := g3.symm
          rcases g4 with ⟨-, -, g4⟩ | ⟨g4, -⟩
          · have g4 : r5.toInt = cB h x3.toInt := g4
            have q5 : 48 ≤ r5.toInt ∧ r5.toInt ≤ 57 := by rw [g4, ← g2]; exact q
            have a3 := fb_addI (x := x3) (y := 1) (by omega) (by omega)
            have b1 := fb_mulK (x := x4) (y := 10) (k := 10) rfl (by omega) (by omega)
            have b2 := fb_addI (x := x4 * 10) (y := r5) (by omega) (by omega)
            have b3 := fb_subI (x := x4 * 10 + r5) (y := 48) (by omega) (by omega)
            have b4 : (if x4 * 10 + r5 - 48 < 10000 then x4 * 10 + r5 - 48 else 10000).toInt = if x4.toInt * 10 + cB h x3.toInt - 48 < 10000 then x4.toInt * 10 + cB h x3.toInt - 48 else 10000 := by
              rw [← g4]
              by_cases c : x4 * 10 + r5 - 48 < 10000
              · have := gi_of_lt c
                rw [if_pos c, if_pos (by omega)]; omega
              · have := gi_of_nlt c
                rw [if_neg c, if_neg (by omega)]; rfl
            have b5 : 0 ≤ (if x4 * 10 + r5 - 48 < 10000 then x4 * 10 + r5 - 48 else 10000).toInt ∧ (if x4 * 10 + r5 - 48 < 10000 then x4 * 10 + r5 - 48 else 10000).toInt ≤ 10000 := by
              by_cases c : x4 * 10 + r5 - 48 < 10000
              · have := gi_of_lt c
                rw [if_pos c]; omega
              · rw [if_neg c]; omega
            obtain ⟨y, v, k1, k2, k3, k4, k5, k6⟩ := ih (x3 + 1) _ z e (by omega) (by omega) b5.1 b5.2
            refine ⟨y, v, by omega, k2, fun j a b => ?_, k4, ?_, k6⟩
            · by_cases c : j = x3.toInt
              · rw [c, ← g2]; exact q
              · exact k3 j (by omega) b
            · obtain ⟨m, hm⟩ : ∃ m : Nat, (y.toInt - x3.toInt).toNat = m + 1 := ⟨(y.toInt - x3.toInt).toNat - 1, by omega⟩
              rw [k5, hm, b4, show (y.toInt - (x3 + 1).toInt).toNat = m by omega, show (x3 + 1).toInt = x3.toInt + 1 by omega]
              rfl
          · exact absurd ⟨h0, d1⟩ g4
      · exact absurd ⟨h0, d1⟩ g2
/-- the tokens that stand, each behind the other; the next one is looked for from P c on -/
def TS (B : Int → Int) (L : Int) (h : HS) (P : Nat → Int) (x : Int) : Prop := P 0 = 0 ∧ 0 ≤ (eI h 4 3).toInt ∧ (eI h 4 3).toInt ≤ x ∧ x ≤ L ∧ (∀ i : Nat, (i : Int) < (eI h 4 3).toInt → ¬ (eA h 4 0 i).toInt = 0 ∧ Tok B L (P i) (eA h 4 0 i).toInt (eA h 4 1 i).toInt (eA h 4 2 i).toInt (P (i + 1))) ∧ P (eI h 4 3).toInt.toNat ≤ x ∧ 0 ≤ P (eI h 4 3).toInt.toNat ∧ (∀ j : Int, P (eI h 4 3).toInt.toNat ≤ j → j < x → isBl (B j))
theorem TS_add {B : Int → Int} {L : Int} {h h' : HS} {P : Nat → Int} {x q : Int} {k s v : Int32} (t : TS B L h P x) (hL : L ≤ 300) (e : f_X7_add h k s v = some h') (hs : s.toInt = x) (hx : x < L) (hk : ¬ k.toInt = 0) (hq : x < q) (hqL : q ≤ L) (tk : TokE L k.toInt x q ∨ TokW B L k.toInt x q ∨ TokN B L k.toInt x v.toInt q ∨ TokS B L k.toInt x q) : ∃ P' : Nat → Int, TS B L h' P' q := by
  obtain ⟨t1, t2, t3, t4, t5, t6, t7, t8⟩ := t
  have z1 : (1 : Int32).toInt = 1 := rfl
  have e' := cx_add e t2 (by omega)
  subst e'
  have a1 := fb_addI (x := eI h 4 3) (y := 1) (by omega) (by omega)
  obtain ⟨c, hc⟩ := Int.eq_ofNat_of_zero_le t2
  have hc' : (eI h 4 3).toInt.toNat = c := by omega
  rw [hc'] at t6 t7 t8 ⊢
  have ec : (eI h 4 3 + 1).toInt.toNat = c + 1 := by omega
  refine ⟨fun i => if i = c + 1 then q else P i, ?_⟩
  have hP : ∀ i : Nat, i ≤ c → (if i = c + 1 then q else P i) = P i := fun i hi => if_neg (by omega)
  have hT : Tok B L (P c) k.toInt s.toInt v.toInt q := by rw [hs]; exact ⟨t6, by omega, t8, tk⟩
  refine ⟨(hP 0 (by omega)).trans t1, ?_, ?_, hqL, ?_, ?_, ?_, ?_⟩
  · show 0 ≤ (eI h 4 3 + 1).toInt; omega
  · show (eI h 4 3 + 1).toInt ≤ q; omega
  · intro i hi
    have hi : (i : Int) < (eI h 4 3 + 1).toInt := hi
    show ¬ (upd (eA h 4 0) c k i).toInt = 0 ∧ Tok B L (if i = c + 1 then q else P i) (upd (eA h 4 0) c k i).toInt (upd (eA h 4 1) c s i).toInt (upd (eA h 4 2) c v i).toInt (if i + 1 = c + 1 then q else P (i + 1))
    unfold upd
    by_cases ci : i = c
    · rw [if_pos ci, if_pos ci, if_pos ci, if_neg (by omega), if_pos (by omega), ci]
      exact ⟨hk, hT⟩
    · rw [if_neg ci, if_neg ci, if_neg ci, if_neg (by omega), if_neg (by omega)]
      exact t5 i (by omega)
  · show (if (eI h 4 3 + 1).toInt.toNat = c + 1 then q else _) ≤ q
    rw [if_pos ec]; exact Int.le_refl _
  · show 0 ≤ (if (eI h 4 3 + 1).toInt.toNat = c + 1 then q else _)
    rw [if_pos ec]; omega
  · intro j h1 h2
    have h1 : (if (eI h 4 3 + 1).toInt.toNat = c + 1 then q else _) ≤ j := h1
    rw [if_pos ec] at h1
    omega
/-- what a split tape is: its tokens, the end being the last -/
def TE (B : Int → Int) (L : Int) (h : HS) (P : Nat → Int) : Prop := P 0 = 0 ∧ 1 ≤ (eI h 4 3).toInt ∧ (eI h 4 3).toInt ≤ L + 1 ∧ (∀ i : Nat, (i : Int) < (eI h 4 3).toInt → 0 ≤ P i ∧ Tok B L (P i) (eA h 4 0 i).toInt (eA h 4 1 i).toInt (eA h 4 2 i).toInt (P (i + 1)) ∧ ((eA h 4 0 i).toInt = 0 ↔ (i : Int) = (eI h 4 3).toInt - 1))
theorem Tok_q {B : Int → Int} {L p k s v q : Int} (t : Tok B L p k s v q) (h : 0 ≤ p) : 0 ≤ q := by
  obtain ⟨a, b, c, d⟩ := t
  rcases d with d | d | d | d
  · have := d.2.2; have := d.1; omega
  · have := d.2.2.1; omega
  · have := d.2.2.1; omega
  · rcases d.2.2.2.2 with d | d
    · have := d.2.2; omega
    · have := d.2.2; omega
theorem TS_end {B : Int → Int} {L : Int} {h h' : HS} {P : Nat → Int} (t : TS B L h P L) (hL : L ≤ 300) {s : Int32} (hs : s.toInt = L) (e : f_X7_add h 0 s 0 = some h') : ∃ P' : Nat → Int, TE B L h' P' ∧ eI h' 4 4 = eI h 4 4 := by
  obtain ⟨t1, t2, t3, t4, t5, t6, t7, t8⟩ := t
  have z1 : (1 : Int32).toInt = 1 := rfl
  have e' := cx_add e t2 (by omega)
  subst e'
  have a1 := fb_addI (x := eI h 4 3) (y := 1) (by omega) (by omega)
  obtain ⟨c, hc⟩ := Int.eq_ofNat_of_zero_le t2
  have hc' : (eI h 4 3).toInt.toNat = c := by omega
  rw [hc'] at t6 t7 t8 ⊢
  have hnn : ∀ i : Nat, i ≤ c → 0 ≤ P i := by
    intro i
    induction i with
    | zero => intro _; omega
    | succ i ih => intro hi; exact Tok_q (t5 i (by omega)).2 (ih (by omega))
  refine ⟨fun i => if i = c + 1 then L else P i, ⟨(if_neg (by omega)).trans t1, ?_, ?_, ?_⟩, rfl⟩
  · show 1 ≤ (eI h 4 3 + 1).toInt; omega
  · show (eI h 4 3 + 1).toInt ≤ L + 1; omega
  · intro i hi
    have hi : (i : Int) < (eI h 4 3 + 1).toInt := hi
    show 0 ≤ (if i = c + 1 then L else P i) ∧ Tok B L (if i = c + 1 then L else P i) (upd (eA h 4 0) c 0 i).toInt (upd (eA h 4 1) c s i).toInt (upd (eA h 4 2) c 0 i).toInt (if i + 1 = c + 1 then L else P (i + 1)) ∧ ((upd (eA h 4 0) c 0 i).toInt = 0 ↔ (i : Int) = (eI h 4 3 + 1).toInt - 1)
    unfold upd
    by_cases ci : i = c
    · rw [if_pos ci, if_pos ci, if_pos ci, if_neg (by omega), if_pos (by omega), ci]
      exact ⟨t7, ⟨by omega, by omega, by rw [hs]; exact t8, Or.inl ⟨hs, rfl, rfl⟩⟩, ⟨fun _ => by omega, fun _ => rfl⟩⟩
    · rw [if_neg ci, if_neg ci, if_neg ci, if_neg (by omega), if_neg (by omega)]
      have q := t5 i (by omega)
      exact ⟨hnn i (by omega), q.2, ⟨fun y => absurd y q.1, fun y => by omega⟩⟩
theorem cx_splitSign {h : HS} {x : Int32} {z : Int32 × HS} {P : Nat → Int} (e : f_X7_splitSign h x = some z) (hL : cL h ≤ 300) (t : TS (cB h) (cL h) h P x.toInt) (h0 : 0 ≤ x.toInt) (h1 : x.toInt < cL h) (n1 : ¬ isBl (cB h x.toInt)) (n2 : ¬ isAl (cB h x.toInt)) (n3 : ¬ isNu (cB h x.toInt)) : ∃ P' : Nat → Int, TS (cB h) (cL h) z.2 P' z.1.toInt ∧ x.toInt < z.1.toInt := by
  have z1 : (1 : Int32).toInt = 1 := rfl
  have z2 : (2 : Int32).toInt = 2 := rfl
  have z3 : (3 : Int32).toInt = 3 := rfl
  have z4 : (4 : Int32).toInt = 4 := rfl
  have z5 : (5 : Int32).toInt = 5 := rfl
  have z6 : (6 : Int32).toInt = 6 := rfl
  have z61 : (61 : Int32).toInt = 61 := rfl
  have a1 := fb_addI (x := x) (y := 1) (by omega) (by omega)
  have a2 := fb_addI (x := x) (y := 2) (by omega) (by omega)
  unfold f_X7_splitSign at e
  obtain ⟨r1, h1', e1, e⟩ := ob2_some e
  obtain ⟨g1, g2⟩ := cx_byteAt e1 hL
  obtain rfl : h = h1' := g1.symm
  rcases g2 with ⟨-, -, g2⟩ | ⟨g2, -⟩
  · have g2 : r1.toInt = cB h x.toInt := g2
    obtain ⟨r2, e2, e⟩ := ob1_some e
    have k2 := cx_signKind e2
    rw [g2] at k2
    have kr := skind_rng (cB h x.toInt)
    have short : ¬ TokL (cB h) (cL h) x.toInt → f_X7_splitSign_35 h x r2 = some z → ∃ P' : Nat → Int, TS (cB h) (cL h) z.2 P' z.1.toInt ∧ x.toInt < z.1.toInt := by
      intro hn e
      unfold f_X7_splitSign_35 f_X7_splitSign_36 at e
      rw [if_pos rfl] at e
      unfold f_X7_splitSign_55 f_X7_splitSign_76 at e
      obtain ⟨h9, e9, e⟩ := ob1_some e
      rw [if_pos rfl] at e
      cases e
      obtain ⟨P', k⟩ := TS_add (q := x.toInt + 1) t hL e9 rfl h1 (by omega) (by omega) (by omega) (Or.inr (Or.inr (Or.inr ⟨h1, n1, n2, n3, Or.inr ⟨hn, k2, rfl⟩⟩)))
      exact ⟨P', by show TS _ _ h9 P' (x + 1).toInt; rw [show (x + 1).toInt = x.toInt + 1 by omega]; exact k, by show x.toInt < (x + 1).toInt; omega⟩
    have long : (r2 = 3 ∨ r2 = 5) → f_X7_splitSign_19 h x r2 = some z → ∃ P' : Nat → Int, TS (cB h) (cL h) z.2 P' z.1.toInt ∧ x.toInt < z.1.toInt := by
      intro hr e
      have hr' : skind (cB h x.toInt) = 3 ∨ skind (cB h x.toInt) = 5 := by
        rcases hr with hr | hr
        · left; rw [← k2, hr]; rfl
        · right; rw [← k2, hr]; rfl
      unfold f_X7_splitSign_19 at e
      obtain ⟨r5, h5, e5, e⟩ := ob2_some e
      obtain ⟨g3, g4⟩ := cx_byteAt e5 hL
      obtain rfl : h = h5 := g3.symm
      by_cases c : r5 = 61
      · rw [if_pos c] at e
        have d := gi_of_eq c
        rcases g4 with ⟨-, q2, g4⟩ | ⟨-, g4⟩
        · have g4 : r5.toInt = cB h (x + 1).toInt := g4
          rw [show (x + 1).toInt = x.toInt + 1 by omega] at g4 q2
          have hl : TokL (cB h) (cL h) x.toInt := ⟨hr', q2, by omega⟩
          unfold f_X7_splitSign_36 at e
          rw [if_neg (by decide)] at e
          have fin : ∀ (w : Int32), w.toInt = skind (cB h x.toInt) + 1 → f_X7_splitSign_54 h x 1 w = some z → ∃ P' : Nat → Int, TS (cB h) (cL h) z.2 P' z.1.toInt ∧ x.toInt < z.1.toInt := by
            intro w hw e
            unfold f_X7_splitSign_54 f_X7_splitSign_55 f_X7_splitSign_76 at e
            obtain ⟨h9, e9, e⟩ := ob1_some e
            rw [if_neg (by decide)] at e
            cases e
            obtain ⟨P', k⟩ := TS_add (q := x.toInt + 2) t hL e9 rfl h1 (by omega) (by omega) (by omega) (Or.inr (Or.inr (Or.inr ⟨h1, n1, n2, n3, Or.inl ⟨hl, hw, rfl⟩⟩)))
            exact ⟨P', by show TS _ _ h9 P' (x + 2).toInt; rw [show (x + 2).toInt = x.toInt + 2 by omega]; exact k, by show x.toInt < (x + 2).toInt; omega⟩
          by_cases c3 : r2 = 3
          · rw [if_pos c3] at e
            exact fin 4 (by rw [← k2, c3]; rfl) e
          · rw [if_neg c3] at e
            have c5 : r2 = 5 := by
              rcases hr with hr | hr
              · exact absurd hr c3
              · exact hr
            exact fin 6 (by rw [← k2, c5]; rfl) e
        · have g4 : r5 = 0 := g4
          rw [g4] at c
          exact absurd c (by decide)
      · rw [if_neg c] at e
        refine short (fun hl => ?_) e
        obtain ⟨-, q2, q3⟩ := hl
        rcases g4 with ⟨-, -, g4⟩ | ⟨g4, -⟩
        · have g4 : r5.toInt = cB h (x + 1).toInt := g4
          rw [show (x + 1).toInt = x.toInt + 1 by omega, q3] at g4
          exact c (gi_eq (by omega))
        · exact g4 ⟨by omega, by omega⟩
    by_cases c3 : r2 = 3
    · rw [if_pos c3] at e
      exact long (Or.inl c3) e
    · rw [if_neg c3] at e
      by_cases c5 : r2 = 5
      · rw [if_pos c5] at e
        exact long (Or.inr c5) e
      · rw [if_neg c5] at e
        refine short (fun hl => ?_) e
        have d3 := gi_of_ne c3
        have d5 := gi_of_ne c5
        rcases hl.1 with q | q
        · omega
        · omega
  · exact absurd ⟨h0, h1⟩ g2
theorem cx_splitWord {h : HS} {x : Int32} {z : Int32 × HS} {P : Nat → Int} (e : f_X7_splitWord h x = some z) (hL : cL h ≤ 300) (t : TS (cB h) (cL h) h P x.toInt) (h0 : 0 ≤ x.toInt) (h1 : x.toInt < cL h) (n2 : isAl (cB h x.toInt)) : ∃ P' : Nat → Int, TS (cB h) (cL h) z.2 P' z.1.toInt ∧ x.toInt < z.1.toInt := by
  unfold f_X7_splitWord at e
  obtain ⟨y, k1, k2, k3, k4, k5⟩ := cx_swl hL _ x z e h0 (by omega)
  have hxy : x.toInt < y.toInt := by
    rcases Int.lt_or_eq_of_le k1 with q | q
    · exact q
    · exfalso
      rcases k4 with k4 | k4
      · omega
      · rw [← q] at k4; exact k4 n2
  unfold f_X7_splitWord_27 at k5
  obtain ⟨r5, h5, e5, k5⟩ := ob2_some k5
  have s1 := fb_subI (x := y) (y := x) (by omega) (by omega)
  obtain ⟨g1, g2⟩ := cx_wordKind e5 h0 (by omega) (by omega) hL
  obtain rfl : h = h5 := g1.symm
  have g2 : r5.toInt = wkind (seg (cB h) x.toInt (y - x).toInt.toNat) := g2
  rw [show (y - x).toInt = y.toInt - x.toInt by omega] at g2
  have kr := wkind_rng (seg (cB h) x.toInt (y.toInt - x.toInt).toNat)
  obtain ⟨h6, e6, k5⟩ := ob1_some k5
  cases k5
  obtain ⟨P', k⟩ := TS_add (q := y.toInt) t hL e6 rfl h1 (by omega) hxy k2 (Or.inr (Or.inl ⟨h1, n2, hxy, k2, k3, k4, g2⟩))
  exact ⟨P', k, hxy⟩
theorem cx_splitNumber {h : HS} {x : Int32} {z : Int32 × HS} {P : Nat → Int} (e : f_X7_splitNumber h x = some z) (hL : cL h ≤ 300) (t : TS (cB h) (cL h) h P x.toInt) (h0 : 0 ≤ x.toInt) (h1 : x.toInt < cL h) (n2 : isNu (cB h x.toInt)) : ∃ P' : Nat → Int, TS (cB h) (cL h) z.2 P' z.1.toInt ∧ x.toInt < z.1.toInt := by
  unfold f_X7_splitNumber at e
  obtain ⟨y, v, k1, k2, k3, k4, k5, k6⟩ := cx_snl hL _ x 0 z e h0 (by omega) (by decide) (by decide)
  have hxy : x.toInt < y.toInt := by
    rcases Int.lt_or_eq_of_le k1 with q | q
    · exact q
    · exfalso
      rcases k4 with k4 | k4
      · omega
      · rw [← q] at k4; exact k4 n2
  unfold f_X7_splitNumber_52 at k6
  obtain ⟨h6, e6, k6⟩ := ob1_some k6
  cases k6
  obtain ⟨P', k⟩ := TS_add (q := y.toInt) t hL e6 rfl h1 (by decide) hxy k2 (Or.inr (Or.inr (Or.inl ⟨h1, n2, hxy, k2, k3, k4, rfl, k5⟩)))
  exact ⟨P', k, hxy⟩
theorem cx_spl {B : Int → Int} {L : Int} (hL : L ≤ 300) : ∀ (n : Nat) (h h' : HS) (x2 x3 : Int32) (P : Nat → Int), f_X7_split_14 n h x2 x3 = some h' → cB h = B → cL h = L → 0 ≤ x3.toInt → x3.toInt ≤ x2.toInt → TS B L h P x2.toInt → ∃ P' : Nat → Int, TE B L h' P' ∧ eI h' 4 4 = eI h 4 4 := by
  have z1 : (1 : Int32).toInt = 1 := rfl
  have z300 : (300 : Int32).toInt = 300 := rfl
  intro n
  induction n with
  | zero => intro h h' x2 x3 P e; cases e
  | succ n ih =>
    intro h h' x2 x3 P e hB hLL h0 h1 t
    have tL := t.2.2.2.1
    rw [f_X7_split_14_s] at e
    have fin : x2.toInt = L → f_X7_split_99 h = some h' → ∃ P' : Nat → Int, TE B L h' P' ∧ eI h' 4 4 = eI h 4 4 := by
      intro q e
      unfold f_X7_split_99 at e
      obtain ⟨h13, e13, e⟩ := ob1_some e
      cases e
      rw [q] at t
      exact TS_end t hL hLL e13
    by_cases c1 : (300 : Int32) ≤ x3
    · rw [if_pos c1] at e
      have := gi_of_le c1
      exact fin (by omega) e
    · rw [if_neg c1] at e
      have d1 := gi_of_nle c1
      by_cases c2 : eI h 3 1 ≤ x2
      · rw [if_pos c2] at e
        have : cL h ≤ x2.toInt := gi_of_le c2
        exact fin (by omega) e
      · rw [if_neg c2] at e
        have d2 : x2.toInt < cL h := gi_of_nle c2
        have a2 := fb_addI (x := x2) (y := 1) (by omega) (by omega)
        have a3 := fb_addI (x := x3) (y := 1) (by omega) (by omega)
        obtain ⟨r3, h3, e3, e⟩ := ob2_some e
        obtain ⟨g1, g2⟩ := cx_byteAt e3 (by omega)
        obtain rfl : h = h3 := g1.symm
        rcases g2 with ⟨-, -, g2⟩ | ⟨g2, -⟩
        · have g2 : r3.toInt = cB h x2.toInt := g2
          have on : ∀ (z : Int32 × HS) (P : Nat → Int), Fr [(1, 4, 0), (1, 4, 1), (1, 4, 2), (0, 4, 3)] h z.2 → TS (cB h) (cL h) z.2 P z.1.toInt → x2.toInt < z.1.toInt → f_X7_split_93 (f_X7_split_14 n) z.2 z.1 x3 = some h' → ∃ P' : Nat → Int, TE B L h' P' ∧ eI h' 4 4 = eI h 4 4 := by
            intro z P f t q e
            unfold f_X7_split_93 at e
            have f1 : eA z.2 3 0 = eA h 3 0 := f.2.1 3 0 (by decide)
            have f2 : eI z.2 3 1 = eI h 3 1 := f.1 3 1 (by decide)
            have f3 : eI z.2 4 4 = eI h 4 4 := f.1 4 4 (by decide)
            obtain ⟨P', k1, k2⟩ := ih z.2 h' z.1 (x3 + 1) P e (by rw [← hB]; unfold cB; rw [f1]) (by rw [← hLL]; unfold cL; rw [f2]) (by omega) (by omega) (by rw [← hB, ← hLL]; exact t)
            exact ⟨P', k1, k2.trans f3⟩
          obtain ⟨r4, e4, e⟩ := ob1_some e
          have t' : TS (cB h) (cL h) h P x2.toInt := by rw [hB, hLL]; exact t
          rcases cx_isBlank e4 with ⟨rfl, q4⟩ | ⟨rfl, q4⟩
          · rw [if_pos rfl] at e
            rw [g2] at q4
            obtain ⟨r6, e6, e⟩ := ob1_some e
            rcases cx_isAlpha e6 with ⟨rfl, q6⟩ | ⟨rfl, q6⟩
            · rw [if_pos rfl] at e
              rw [g2] at q6
              obtain ⟨r8, e8, e⟩ := ob1_some e
              rcases cx_isNumeral e8 with ⟨rfl, q8⟩ | ⟨rfl, q8⟩
              · rw [if_pos rfl] at e
                rw [g2] at q8
                obtain ⟨r10, h10, e10, e⟩ := ob2_some e
                obtain ⟨P', k1, k2⟩ := cx_splitSign e10 (by omega) t' (by omega) d2 q4 q6 q8
                exact on (r10, h10) P' (Fr_mono (by decide) (w_f_X7_splitSign h x2 _ e10)) k1 k2 e
              · rw [if_neg (by decide)] at e
                rw [g2] at q8
                obtain ⟨r10, h10, e10, e⟩ := ob2_some e
                obtain ⟨P', k1, k2⟩ := cx_splitNumber e10 (by omega) t' (by omega) d2 q8
                exact on (r10, h10) P' (Fr_mono (by decide) (w_f_X7_splitNumber h x2 _ e10)) k1 k2 e
            · rw [if_neg (by decide)] at e
              rw [g2] at q6
              obtain ⟨r10, h10, e10, e⟩ := ob2_some e
              obtain ⟨P', k1, k2⟩ := cx_splitWord e10 (by omega) t' (by omega) d2 q6
              exact on (r10, h10) P' (Fr_mono (by decide) (w_f_X7_splitWord h x2 _ e10)) k1 k2 e
          · rw [if_neg (by decide)] at e
            rw [g2] at q4
            refine on (x2 + 1, h) P (Fr_refl _ _) ?_ (by show x2.toInt < (x2 + 1).toInt; omega) e
            obtain ⟨t1, t2, t3, t4, t5, t6, t7, t8⟩ := t'
            show TS _ _ h P (x2 + 1).toInt
            refine ⟨t1, t2, by omega, by omega, t5, by omega, t7, fun j q1 q2 => ?_⟩
            by_cases c : j = x2.toInt
            · rw [c]; exact q4
            · exact t8 j q1 (by omega)
        · exact absurd ⟨by omega, d2⟩ g2
theorem cx_split {h h' : HS} (e : f_X7_split h = some h') (h0 : 0 ≤ cL h) (hL : cL h ≤ 300) : ∃ P : Nat → Int, TE (cB h) (cL h) h' P ∧ eI h' 4 4 = 0 := by
  unfold f_X7_split at e
  have z0 : (0 : Int32).toInt = 0 := rfl
  exact cx_spl (B := cB h) (L := cL h) hL _ _ h' 0 0 (fun _ => 0) e rfl rfl (by decide) (by decide) ⟨rfl, by show 0 ≤ (0 : Int32).toInt; decide, by show (0 : Int32).toInt ≤ (0 : Int32).toInt; decide, h0, fun i hi => by have hi : (i : Int) < (0 : Int32).toInt := hi; omega, by show (0 : Int) ≤ (0 : Int32).toInt; decide, Int.le_refl _, fun j q1 q2 => by have q1 : (0 : Int) ≤ j := q1; omega⟩
/-! the reference's next token is the one that Tok tells -/
def mB (g : HS) (j : Int) : Int := (eA g 0 2 j.toNat).toInt
def BR (b m : Int) : Prop := 0 ≤ b ∧ b ≤ 255 ∧ ((b < 128 ∧ m = b) ∨ (128 ≤ b ∧ m = b - 256))
theorem BR_bl {b m : Int} (h : BR b m) : isBl m ↔ isBl b := by unfold BR isBl at *; omega
theorem BR_al {b m : Int} (h : BR b m) : isAl m ↔ isAl b := by unfold BR isAl at *; omega
theorem BR_nu {b m : Int} (h : BR b m) : isNu m ↔ isNu b := by unfold BR isNu at *; omega
theorem mx_in {x lo hi r : Int32} (e : f_X9_in x lo hi = some r) : (r = 0 ∧ ¬ (lo.toInt ≤ x.toInt ∧ x.toInt ≤ hi.toInt)) ∨ (r = 1 ∧ (lo.toInt ≤ x.toInt ∧ x.toInt ≤ hi.toInt)) := by
  unfold f_X9_in f_X9_in_14 f_X9_in_15 at e
  by_cases c1 : x < lo
  · rw [if_pos c1] at e; cases e
    exact Or.inl ⟨rfl, by have := gi_of_lt c1; omega⟩
  · rw [if_neg c1] at e
    by_cases c2 : hi < x
    · rw [if_pos c2] at e; cases e
      exact Or.inl ⟨rfl, by have := gi_of_lt c2; omega⟩
    · rw [if_neg c2] at e; cases e
      exact Or.inr ⟨rfl, gi_of_nlt c1, gi_of_nlt c2⟩
theorem mx_isLetter {x r : Int32} (e : f_X9_isLetter x = some r) : (r = 0 ∧ ¬ isAl x.toInt) ∨ (r = 1 ∧ isAl x.toInt) := by
  have z1 : (97 : Int32).toInt = 97 := rfl
  have z2 : (122 : Int32).toInt = 122 := rfl
  have z3 : (65 : Int32).toInt = 65 := rfl
  have z4 : (90 : Int32).toInt = 90 := rfl
  unfold f_X9_isLetter f_X9_isLetter_22 f_X9_isLetter_27 at e
  obtain ⟨r1, e1, e⟩ := ob1_some e
  unfold isAl
  rcases mx_in e1 with ⟨rfl, q1⟩ | ⟨rfl, q1⟩
  · rw [if_pos rfl] at e
    obtain ⟨r3, e3, e⟩ := ob1_some e
    rcases mx_in e3 with ⟨rfl, q3⟩ | ⟨rfl, q3⟩
    · cases e
      exact Or.inl ⟨rfl, by omega⟩
    · cases e
      exact Or.inr ⟨rfl, by omega⟩
  · cases e
    exact Or.inr ⟨rfl, by omega⟩
def MT (B : Int → Int) (L : Int) (g : HS) : Prop := (eI g 0 14).toInt = L ∧ ∀ j : Int, 0 ≤ j → j < L → BR (B j) (mB g j)
theorem MT_fr {B : Int → Int} {L : Int} {S : CL} {g g1 : HS} (t : MT B L g) (f : Fr S g g1) (h1 : (0, 0, 14) ∉ S) (h2 : (1, 0, 2) ∉ S) : MT B L g1 := by
  refine ⟨by rw [f.1 0 14 h1]; exact t.1, fun j a b => ?_⟩
  have := t.2 j a b
  unfold mB at *
  rw [f.2.1 0 2 h2]
  exact this
theorem mx_skip {B : Int → Int} {L s : Int} (hL : L ≤ 300) : ∀ (n : Nat) (g g' : HS), f_X9_next_0 n g = some g' → MT B L g → 0 ≤ (eI g 0 15).toInt → (eI g 0 15).toInt ≤ s → s ≤ L → (∀ j : Int, (eI g 0 15).toInt ≤ j → j < s → isBl (B j)) → (s = L ∨ ¬ isBl (B s)) → ∃ g1 : HS, f_X9_next_52 g1 = some g' ∧ (eI g1 0 15).toInt = s ∧ Fr [(0, 0, 15)] g g1 := by
  have z1 : (1 : Int32).toInt = 1 := rfl
  have z32 : (32 : Int32).toInt = 32 := rfl
  have z10 : (10 : Int32).toInt = 10 := rfl
  intro n
  induction n with
  | zero => intro g g' e; cases e
  | succ n ih =>
    intro g g' e t h0 h1 h2 h3 h4
    rw [f_X9_next_0_s] at e
    by_cases c1 : eI g 0 14 ≤ eI g 0 15
    · rw [if_pos c1] at e
      have d1 := gi_of_le c1
      have := t.1
      exact ⟨g, e, by omega, Fr_refl _ _⟩
    · rw [if_neg c1] at e
      have d1 := gi_of_nle c1
      have tl := t.1
      obtain ⟨-, e⟩ := ob_if e
      have tb := t.2 (eI g 0 15).toInt h0 (by omega)
      have eb : (eA g 0 2 ((eI g 0 15).toNatClampNeg)).toInt = mB g (eI g 0 15).toInt := rfl
      by_cases c2 : (eI g 0 15).toInt = s
      · have nb : ¬ isBl (mB g (eI g 0 15).toInt) := by
          rcases h4 with h4 | h4
          · omega
          · rw [BR_bl tb, c2]; exact h4
        unfold isBl at nb
        rw [if_neg (fun q => by have := gi_of_eq q; omega)] at e
        obtain ⟨-, e⟩ := ob_if e
        rw [if_neg (fun q => by have := gi_of_eq q; omega)] at e
        exact ⟨g, e, c2, Fr_refl _ _⟩
      · have bb : isBl (mB g (eI g 0 15).toInt) := by rw [BR_bl tb]; exact h3 _ (Int.le_refl _) (by omega)
        have a1 := fb_addI (x := eI g 0 15) (y := 1) (by omega) (by omega)
        have go : f_X9_next_39 (f_X9_next_0 n) g = some g' := by
          by_cases c3 : (eA g 0 2 ((eI g 0 15).toNatClampNeg)) = 32
          · rw [if_pos c3] at e; exact e
          · rw [if_neg c3] at e
            obtain ⟨-, e⟩ := ob_if e
            have d3 := gi_of_ne c3
            have c4 : (eA g 0 2 ((eI g 0 15).toNatClampNeg)) = 10 := by
              rcases bb with q | q
              · omega
              · exact gi_eq (by omega)
            rw [if_pos c4] at e
            exact e
        unfold f_X9_next_39 at go
        have f : Fr [(0, 0, 15)] g (sI g 0 15 (eI g 0 15 + 1)) := Fr_sI (by decide) (Fr_refl _ _)
        have ea : (eI (sI g 0 15 (eI g 0 15 + 1)) 0 15).toInt = (eI g 0 15).toInt + 1 := a1.trans (by omega)
        obtain ⟨g1, k1, k2, k3⟩ := ih _ g' go (MT_fr t f (by decide) (by decide)) (by omega) (by omega) h2 (fun j q1 q2 => h3 j (by omega) q2) h4
        exact ⟨g1, k1, k2, Fr_trans f k3⟩
def MM : Nat → Int
  | 0 => 1
  | k + 1 => 64 * MM k
theorem MM_le : ∀ k : Fin 10, MM k.val ≤ 18014398509481984 := by decide +kernel
theorem l_add {x y : Int64} (h1 : -9223372036854775808 ≤ x.toInt + y.toInt) (h2 : x.toInt + y.toInt < 9223372036854775808) : (x + y).toInt = x.toInt + y.toInt := by
  rw [Int64.toInt_add, l_bmod h1 h2]
theorem l_sub {x y : Int64} (h1 : -9223372036854775808 ≤ x.toInt - y.toInt) (h2 : x.toInt - y.toInt < 9223372036854775808) : (x - y).toInt = x.toInt - y.toInt := by
  rw [Int64.toInt_sub, l_bmod h1 h2]
theorem l_mulJ {x y : Int64} {k : Int} (e : x.toInt = k) (h1 : -9223372036854775808 ≤ k * y.toInt) (h2 : k * y.toInt < 9223372036854775808) : (x * y).toInt = k * y.toInt := by
  rw [Int64.toInt_mul, e, l_bmod h1 h2]
theorem mx_word {B : Int → Int} {L q : Int} (hL : L ≤ 300) : ∀ (n : Nat) (g g' : HS) (x2 : Int64) (x4 : Int32), f_X9_next_99 n g x2 x4 = some g' → MT B L g → 0 ≤ (eI g 0 15).toInt → (eI g 0 15).toInt ≤ q → q ≤ L → (∀ j : Int, (eI g 0 15).toInt ≤ j → j < q → isAl (B j)) → (q = L ∨ ¬ isAl (B q)) → 0 ≤ x4.toInt → x4.toInt ≤ (eI g 0 15).toInt → (x4.toInt ≤ 9 → 0 ≤ x2.toInt ∧ x2.toInt < MM x4.toInt.toNat) → ∃ (g1 : HS) (y2 : Int64) (y4 : Int32), f_X9_next_173 g1 y2 y4 = some g' ∧ (eI g1 0 15).toInt = q ∧ Fr [(0, 0, 15)] g g1 ∧ y4.toInt = x4.toInt + (q - (eI g 0 15).toInt) ∧ (y4.toInt ≤ 8 → y2.toInt = encA x2.toInt (seg B (eI g 0 15).toInt (q - (eI g 0 15).toInt).toNat)) := by
  have z1 : (1 : Int32).toInt = 1 := rfl
  have z9 : (9 : Int32).toInt = 9 := rfl
  have y64 : (64 : Int64).toInt = 64 := rfl
  intro n
  induction n with
  | zero => intro g g' x2 x4 e; cases e
  | succ n ih =>
    intro g g' x2 x4 e t h0 h1 h2 h3 h4 h5 h5' h6
    rw [f_X9_next_99_s] at e
    have stop : (eI g 0 15).toInt = q → f_X9_next_173 g x2 x4 = some g' → ∃ (g1 : HS) (y2 : Int64) (y4 : Int32), f_X9_next_173 g1 y2 y4 = some g' ∧ (eI g1 0 15).toInt = q ∧ Fr [(0, 0, 15)] g g1 ∧ y4.toInt = x4.toInt + (q - (eI g 0 15).toInt) ∧ (y4.toInt ≤ 8 → y2.toInt = encA x2.toInt (seg B (eI g 0 15).toInt (q - (eI g 0 15).toInt).toNat)) := by
      intro a b
      refine ⟨g, x2, x4, b, a, Fr_refl _ _, by omega, fun _ => ?_⟩
      rw [show (q - (eI g 0 15).toInt).toNat = 0 by omega]; rfl
    by_cases c1 : eI g 0 14 ≤ eI g 0 15
    · rw [if_pos c1] at e
      have d1 := gi_of_le c1
      have := t.1
      exact stop (by omega) e
    · rw [if_neg c1] at e
      have d1 := gi_of_nle c1
      have tl := t.1
      obtain ⟨-, e⟩ := ob_if e
      have tb := t.2 (eI g 0 15).toInt h0 (by omega)
      have eb : (eA g 0 2 ((eI g 0 15).toNatClampNeg)).toInt = mB g (eI g 0 15).toInt := rfl
      obtain ⟨r8, e8, e⟩ := ob1_some e
      have k8 := mx_isLetter e8
      rw [eb, BR_al tb] at k8
      rcases k8 with ⟨rfl, k8⟩ | ⟨rfl, k8⟩
      · rw [if_pos rfl] at e
        refine stop ?_ e
        apply Classical.byContradiction
        intro ne
        exact k8 (h3 _ (Int.le_refl _) (by omega))
      · rw [if_neg (by decide)] at e
        have lt : (eI g 0 15).toInt < q := by
          apply Classical.byContradiction
          intro ne
          have : (eI g 0 15).toInt = q := by omega
          rw [this] at k8
          rcases h4 with h4 | h4
          · omega
          · exact h4 k8
        have a1 := fb_addI (x := eI g 0 15) (y := 1) (by omega) (by omega)
        have a4 := fb_addI (x := x4) (y := 1) (by omega) (by omega)
        have f : Fr [(0, 0, 15)] g (sI g 0 15 (eI g 0 15 + 1)) := Fr_sI (by decide) (Fr_refl _ _)
        have ea : (eI (sI g 0 15 (eI g 0 15 + 1)) 0 15).toInt = (eI g 0 15).toInt + 1 := a1.trans (by omega)
        obtain ⟨m, hm⟩ : ∃ m : Nat, (q - (eI g 0 15).toInt).toNat = m + 1 := ⟨(q - (eI g 0 15).toInt).toNat - 1, by omega⟩
        have hm' : (q - ((eI g 0 15).toInt + 1)).toNat = m := by omega
        have on : ∀ (y : Int64), f_X9_next_99 n (sI g 0 15 (eI g 0 15 + 1)) y (x4 + 1) = some g' → ((x4 + 1).toInt ≤ 9 → (0 ≤ y.toInt ∧ y.toInt < MM (x4 + 1).toInt.toNat) ∧ y.toInt = 64 * x2.toInt + B (eI g 0 15).toInt - 64) → ∃ (g1 : HS) (y2 : Int64) (y4 : Int32), f_X9_next_173 g1 y2 y4 = some g' ∧ (eI g1 0 15).toInt = q ∧ Fr [(0, 0, 15)] g g1 ∧ y4.toInt = x4.toInt + (q - (eI g 0 15).toInt) ∧ (y4.toInt ≤ 8 → y2.toInt = encA x2.toInt (seg B (eI g 0 15).toInt (q - (eI g 0 15).toInt).toNat)) := by
          intro y e hy
          obtain ⟨g1, y2, y4, k1, k2, k3, k4, k5⟩ := ih _ g' y (x4 + 1) e (MT_fr t f (by decide) (by decide)) (by omega) (by omega) h2 (fun j q1 q2 => h3 j (by omega) q2) h4 (by omega) (by omega) (fun w => (hy w).1)
          rw [ea] at k4 k5
          refine ⟨g1, y2, y4, k1, k2, Fr_trans f k3, by omega, fun w => ?_⟩
          rw [k5 w, hm, hm', (hy (by omega)).2]
          rfl
        by_cases c9 : (9 : Int32) ≤ x4
        · rw [if_pos c9] at e
          have d9 := gi_of_le c9
          unfold f_X9_next_156 at e
          exact on x2 e (fun w => by omega)
        · rw [if_neg c9] at e
          have d9 := gi_of_nle c9
          obtain ⟨-, e⟩ := ob_if e
          unfold f_X9_next_156 at e
          refine on _ e (fun w => ?_)
          have b6 := h6 (by omega)
          have al : 65 ≤ mB g (eI g 0 15).toInt ∧ mB g (eI g 0 15).toInt ≤ 122 := by
            have := (BR_al tb).mpr k8
            unfold isAl at this
            omega
          have bb : mB g (eI g 0 15).toInt = B (eI g 0 15).toInt := by unfold BR at tb; omega
          have ml := MM_le ⟨x4.toInt.toNat, by omega⟩
          have ml : MM x4.toInt.toNat ≤ 18014398509481984 := ml
          have v1 : (eA g 0 2 ((eI g 0 15).toNatClampNeg)).toInt64.toInt = mB g (eI g 0 15).toInt := by rw [Int32.toInt_toInt64]; rfl
          have v2 := l_mulJ (x := 64) (y := x2) (k := 64) rfl (by omega) (by omega)
          have v3 := l_add (x := 64 * x2) (y := (eA g 0 2 ((eI g 0 15).toNatClampNeg)).toInt64) (by omega) (by omega)
          have v4 := l_sub (x := 64 * x2 + (eA g 0 2 ((eI g 0 15).toNatClampNeg)).toInt64) (y := 64) (by omega) (by omega)
          have em : MM (x4 + 1).toInt.toNat = 64 * MM x4.toInt.toNat := by rw [show (x4 + 1).toInt.toNat = x4.toInt.toNat + 1 by omega]; rfl
          rw [em, v4, v3, v2, v1, bb, y64]
          rw [bb] at al
          omega
theorem mx_num {B : Int → Int} {L q : Int} (hL : L ≤ 300) : ∀ (n : Nat) (g g' : HS), f_X9_next_232 n g = some g' → MT B L g → 0 ≤ (eI g 0 15).toInt → (eI g 0 15).toInt ≤ q → q ≤ L → (∀ j : Int, (eI g 0 15).toInt ≤ j → j < q → isNu (B j)) → (q = L ∨ ¬ isNu (B q)) → 0 ≤ (eI g 0 18).toInt → (eI g 0 18).toInt ≤ 1000000 → (eI g' 0 15).toInt = q ∧ Fr [(0, 0, 15), (0, 0, 18)] g g' ∧ (eI g' 0 18).toInt = nvM (eI g 0 18).toInt (seg B (eI g 0 15).toInt (q - (eI g 0 15).toInt).toNat) := by
  have z1 : (1 : Int32).toInt = 1 := rfl
  have z48 : (48 : Int32).toInt = 48 := rfl
  have z57 : (57 : Int32).toInt = 57 := rfl
  have z5 : (99999 : Int32).toInt = 99999 := rfl
  intro n
  induction n with
  | zero => intro g g' e; cases e
  | succ n ih =>
    intro g g' e t h0 h1 h2 h3 h4 h5 h6
    rw [f_X9_next_232_s] at e
    have stop : (eI g 0 15).toInt = q → f_X9_next_439 g = some g' → (eI g' 0 15).toInt = q ∧ Fr [(0, 0, 15), (0, 0, 18)] g g' ∧ (eI g' 0 18).toInt = nvM (eI g 0 18).toInt (seg B (eI g 0 15).toInt (q - (eI g 0 15).toInt).toNat) := by
      intro a b
      unfold f_X9_next_439 at b
      cases b
      refine ⟨a, Fr_refl _ _, ?_⟩
      rw [show (q - (eI g 0 15).toInt).toNat = 0 by omega]; rfl
    by_cases c1 : eI g 0 14 ≤ eI g 0 15
    · rw [if_pos c1] at e
      have d1 := gi_of_le c1
      have := t.1
      exact stop (by omega) e
    · rw [if_neg c1] at e
      have d1 := gi_of_nle c1
      have tl := t.1
      obtain ⟨-, e⟩ := ob_if e
      have tb := t.2 (eI g 0 15).toInt h0 (by omega)
      have eb : (eA g 0 2 ((eI g 0 15).toNatClampNeg)).toInt = mB g (eI g 0 15).toInt := rfl
      obtain ⟨r8, e8, e⟩ := ob1_some e
      have k8 : (r8 = 0 ∧ ¬ isNu (B (eI g 0 15).toInt)) ∨ (r8 = 1 ∧ isNu (B (eI g 0 15).toInt)) := by
        rw [← BR_nu tb]
        unfold isNu
        have := mx_in e8
        rw [eb, z48, z57] at this
        exact this
      rcases k8 with ⟨rfl, k8⟩ | ⟨rfl, k8⟩
      · rw [if_pos rfl] at e
        refine stop ?_ e
        apply Classical.byContradiction
        intro ne
        exact k8 (h3 _ (Int.le_refl _) (by omega))
      · rw [if_neg (by decide)] at e
        have lt : (eI g 0 15).toInt < q := by
          apply Classical.byContradiction
          intro ne
          have : (eI g 0 15).toInt = q := by omega
          rw [this] at k8
          rcases h4 with h4 | h4
          · omega
          · exact h4 k8
        have a1 := fb_addI (x := eI g 0 15) (y := 1) (by omega) (by omega)
        have nb : 48 ≤ mB g (eI g 0 15).toInt ∧ mB g (eI g 0 15).toInt ≤ 57 := (BR_nu tb).mpr k8
        have bb : mB g (eI g 0 15).toInt = B (eI g 0 15).toInt := by unfold BR at tb; omega
        obtain ⟨m, hm⟩ : ∃ m : Nat, (q - (eI g 0 15).toInt).toNat = m + 1 := ⟨(q - (eI g 0 15).toInt).toNat - 1, by omega⟩
        have hm' : (q - ((eI g 0 15).toInt + 1)).toNat = m := by omega
        have on : ∀ (y : Int32), f_X9_next_299 (f_X9_next_232 n) g y = some g' → y.toInt = (if (eI g 0 18).toInt ≤ 99999 then 10 * (eI g 0 18).toInt + B (eI g 0 15).toInt - 48 else (eI g 0 18).toInt) → 0 ≤ y.toInt → y.toInt ≤ 1000000 → (eI g' 0 15).toInt = q ∧ Fr [(0, 0, 15), (0, 0, 18)] g g' ∧ (eI g' 0 18).toInt = nvM (eI g 0 18).toInt (seg B (eI g 0 15).toInt (q - (eI g 0 15).toInt).toNat) := by
          intro y e hy y0 y1
          unfold f_X9_next_299 at e
          have f : Fr [(0, 0, 15), (0, 0, 18)] g (sI (sI g 0 18 y) 0 15 (eI g 0 15 + 1)) := Fr_sI (by decide) (Fr_sI (by decide) (Fr_refl _ _))
          have ea : (eI (sI (sI g 0 18 y) 0 15 (eI g 0 15 + 1)) 0 15).toInt = (eI g 0 15).toInt + 1 := a1.trans (by omega)
          have et : (eI (sI (sI g 0 18 y) 0 15 (eI g 0 15 + 1)) 0 18).toInt = y.toInt := rfl
          obtain ⟨k1, k2, k3⟩ := ih _ g' e (MT_fr t f (by decide) (by decide)) (by omega) (by omega) h2 (fun j q1 q2 => h3 j (by omega) q2) h4 (by omega) (by omega)
          rw [ea, et] at k3
          refine ⟨k1, Fr_trans f k2, ?_⟩
          rw [k3, hm, hm', hy]
          rfl
        by_cases c9 : eI g 0 18 ≤ 99999
        · rw [if_pos c9] at e
          have d9 := gi_of_le c9
          obtain ⟨-, e⟩ := ob_if e
          have v1 := fb_mulJ (x := 10) (y := eI g 0 18) (k := 10) rfl (by omega) (by omega)
          have v2 := fb_addI (x := 10 * eI g 0 18) (y := eA g 0 2 ((eI g 0 15).toNatClampNeg)) (by omega) (by omega)
          have v3 := fb_subI (x := 10 * eI g 0 18 + eA g 0 2 ((eI g 0 15).toNatClampNeg)) (y := 48) (by omega) (by omega)
          refine on _ e ?_ (by omega) (by omega)
          rw [if_pos (by omega)]
          omega
        · rw [if_neg c9] at e
          have d9 := gi_of_nle c9
          refine on _ e ?_ h5 h6
          rw [if_neg (by omega)]
