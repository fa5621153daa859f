def S_X4_hasGoose_23 : CL := []
theorem w_f_X4_hasGoose_23 (h : HS) (y0 : Int32) : pk (f_X4_hasGoose_23 h y0) (fun a => Fr S_X4_hasGoose_23 h a.2) := by
  unfold f_X4_hasGoose_23
  refine pk_chk (fun _ => ?_)
  exact pk_some (Fr_refl _ h)
def S_X4_hasGoose_22 : CL := []
theorem fs_X4_hasGoose_23__X4_hasGoose_22 : ∀ x ∈ S_X4_hasGoose_23, x ∈ S_X4_hasGoose_22 := by decide
theorem w_f_X4_hasGoose_22 (h : HS) : pk (f_X4_hasGoose_22 h) (fun a => Fr S_X4_hasGoose_22 h a.2) := by
  unfold f_X4_hasGoose_22
  exact pk_mono (w_f_X4_hasGoose_23 h 0) (fun _ k => Fr_trans (Fr_refl _ h) (Fr_mono fs_X4_hasGoose_23__X4_hasGoose_22 k))
def S_X4_hasGoose : CL := []
theorem fs_X4_hasGoose_22__X4_hasGoose : ∀ x ∈ S_X4_hasGoose_22, x ∈ S_X4_hasGoose := by decide
theorem fs_X4_hasGoose_23__X4_hasGoose : ∀ x ∈ S_X4_hasGoose_23, x ∈ S_X4_hasGoose := by decide
theorem w_f_X4_hasGoose (h : HS) (p1 : Int32) : pk (f_X4_hasGoose h p1) (fun a => Fr S_X4_hasGoose h a.2) := by
  unfold f_X4_hasGoose
  refine pk_if (fun _ => ?_) (fun _ => ?_)
  · exact pk_mono (w_f_X4_hasGoose_22 h) (fun _ k => Fr_trans (Fr_refl _ h) (Fr_mono fs_X4_hasGoose_22__X4_hasGoose k))
  · refine pk_if (fun _ => ?_) (fun _ => ?_)
    · exact pk_mono (w_f_X4_hasGoose_22 h) (fun _ k => Fr_trans (Fr_refl _ h) (Fr_mono fs_X4_hasGoose_22__X4_hasGoose k))
    · refine pk_if (fun _ => ?_) (fun _ => ?_)
      · exact pk_mono (w_f_X4_hasGoose_22 h) (fun _ k => Fr_trans (Fr_refl _ h) (Fr_mono fs_X4_hasGoose_22__X4_hasGoose k))
      · exact pk_mono (w_f_X4_hasGoose_23 h 1) (fun _ k => Fr_trans (Fr_refl _ h) (Fr_mono fs_X4_hasGoose_23__X4_hasGoose k))
def S_X4_hasMarket_22 : CL := []
theorem w_f_X4_hasMarket_22 (h : HS) (y0 : Int32) : pk (f_X4_hasMarket_22 h y0) (fun a => Fr S_X4_hasMarket_22 h a.2) := by
  unfold f_X4_hasMarket_22
  refine pk_chk (fun _ => ?_)
  exact pk_some (Fr_refl _ h)
def S_X4_hasMarket_21 : CL := []
theorem fs_X4_hasMarket_22__X4_hasMarket_21 : ∀ x ∈ S_X4_hasMarket_22, x ∈ S_X4_hasMarket_21 := by decide
theorem w_f_X4_hasMarket_21 (h : HS) : pk (f_X4_hasMarket_21 h) (fun a => Fr S_X4_hasMarket_21 h a.2) := by
  unfold f_X4_hasMarket_21
  exact pk_mono (w_f_X4_hasMarket_22 h 0) (fun _ k => Fr_trans (Fr_refl _ h) (Fr_mono fs_X4_hasMarket_22__X4_hasMarket_21 k))
def S_X4_hasMarket : CL := []
theorem fs_X4_hasMarket_21__X4_hasMarket : ∀ x ∈ S_X4_hasMarket_21, x ∈ S_X4_hasMarket := by decide
theorem fs_X4_hasMarket_22__X4_hasMarket : ∀ x ∈ S_X4_hasMarket_22, x ∈ S_X4_hasMarket := by decide
theorem w_f_X4_hasMarket (h : HS) (p1 : Int32) : pk (f_X4_hasMarket h p1) (fun a => Fr S_X4_hasMarket h a.2) := by
  unfold f_X4_hasMarket
  refine pk_if (fun _ => ?_) (fun _ => ?_)
  · exact pk_mono (w_f_X4_hasMarket_21 h) (fun _ k => Fr_trans (Fr_refl _ h) (Fr_mono fs_X4_hasMarket_21__X4_hasMarket k))
  · refine pk_if (fun _ => ?_) (fun _ => ?_)
    · exact pk_mono (w_f_X4_hasMarket_21 h) (fun _ k => Fr_trans (Fr_refl _ h) (Fr_mono fs_X4_hasMarket_21__X4_hasMarket k))
    · refine pk_if (fun _ => ?_) (fun _ => ?_)
      · exact pk_mono (w_f_X4_hasMarket_21 h) (fun _ k => Fr_trans (Fr_refl _ h) (Fr_mono fs_X4_hasMarket_21__X4_hasMarket k))
      · exact pk_mono (w_f_X4_hasMarket_22 h 1) (fun _ k => Fr_trans (Fr_refl _ h) (Fr_mono fs_X4_hasMarket_22__X4_hasMarket k))
def S_X4_ofGoose_28 : CL := []
theorem w_f_X4_ofGoose_28 (h : HS) : pk (f_X4_ofGoose_28 h) (fun a => Fr S_X4_ofGoose_28 h a.2) := by
  unfold f_X4_ofGoose_28
  exact pk_some (Fr_refl _ h)
def S_X4_ofGoose : CL := []
theorem fs_X4_ofGoose_28__X4_ofGoose : ∀ x ∈ S_X4_ofGoose_28, x ∈ S_X4_ofGoose := by decide
theorem w_f_X4_ofGoose (h : HS) (p1 : Int32) (p2 : Int32) : pk (f_X4_ofGoose h p1 p2) (fun a => Fr S_X4_ofGoose h a.2) := by
  unfold f_X4_ofGoose
  refine pk_if (fun _ => ?_) (fun _ => ?_)
  · exact pk_mono (w_f_X4_ofGoose_28 h) (fun _ k => Fr_trans (Fr_refl _ h) (Fr_mono fs_X4_ofGoose_28__X4_ofGoose k))
  · refine pk_if (fun _ => ?_) (fun _ => ?_)
    · exact pk_mono (w_f_X4_ofGoose_28 h) (fun _ k => Fr_trans (Fr_refl _ h) (Fr_mono fs_X4_ofGoose_28__X4_ofGoose k))
    · refine pk_if (fun _ => ?_) (fun _ => ?_)
      · exact pk_mono (w_f_X4_ofGoose_28 h) (fun _ k => Fr_trans (Fr_refl _ h) (Fr_mono fs_X4_ofGoose_28__X4_ofGoose k))
      · refine pk_if (fun _ => ?_) (fun _ => ?_)
        · exact pk_mono (w_f_X4_ofGoose_28 h) (fun _ k => Fr_trans (Fr_refl _ h) (Fr_mono fs_X4_ofGoose_28__X4_ofGoose k))
        · refine pk_if (fun _ => ?_) (fun _ => ?_)
          · refine pk_chk (fun _ => ?_)
            exact pk_some (Fr_refl _ h)
          · exact pk_mono (w_f_X4_ofGoose_28 h) (fun _ k => Fr_trans (Fr_refl _ h) (Fr_mono fs_X4_ofGoose_28__X4_ofGoose k))
def S_X4_setGoose_30 : CL := []
theorem w_f_X4_setGoose_30 (h : HS) : pk (f_X4_setGoose_30 h) (fun a => Fr S_X4_setGoose_30 h a) := by
  unfold f_X4_setGoose_30
  exact pk_some (Fr_refl _ h)
def S_X4_setGoose : CL := [(1, 1, 0)]
theorem fm_X4_setGoose_1_1_0 : (1, 1, 0) ∈ S_X4_setGoose := by decide
theorem fs_X4_hasGoose__X4_setGoose : ∀ x ∈ S_X4_hasGoose, x ∈ S_X4_setGoose := by decide
theorem fs_X4_setGoose_30__X4_setGoose : ∀ x ∈ S_X4_setGoose_30, x ∈ S_X4_setGoose := by decide
theorem w_f_X4_setGoose (h : HS) (p1 : Int32) (p2 : Int32) (p3 : Int32) : pk (f_X4_setGoose h p1 p2 p3) (fun a => Fr S_X4_setGoose h a) := by
  unfold f_X4_setGoose
  refine pk_ob2 (w_f_X4_hasGoose h p1) (fun r_1 h_1 k_1 => ?_)
  replace k_1 := Fr_trans (Fr_refl _ h) (Fr_mono fs_X4_hasGoose__X4_setGoose k_1)
  refine pk_if (fun _ => ?_) (fun _ => ?_)
  · exact pk_mono (w_f_X4_setGoose_30 h_1) (fun _ k => Fr_trans k_1 (Fr_mono fs_X4_setGoose_30__X4_setGoose k))
  · refine pk_if (fun _ => ?_) (fun _ => ?_)
    · exact pk_mono (w_f_X4_setGoose_30 h_1) (fun _ k => Fr_trans k_1 (Fr_mono fs_X4_setGoose_30__X4_setGoose k))
    · refine pk_if (fun _ => ?_) (fun _ => ?_)
      · exact pk_mono (w_f_X4_setGoose_30 h_1) (fun _ k => Fr_trans k_1 (Fr_mono fs_X4_setGoose_30__X4_setGoose k))
      · refine pk_chk (fun _ => ?_)
        exact pk_mono (w_f_X4_setGoose_30 (sA h_1 1 0 (upd (eA h_1 1 0) ((((p1 * 9) + p2)).toNatClampNeg) p3))) (fun _ k => Fr_trans (Fr_sA fm_X4_setGoose_1_1_0 k_1) (Fr_mono fs_X4_setGoose_30__X4_setGoose k))
def S_X4_ofMarket_26 : CL := []
theorem w_f_X4_ofMarket_26 (h : HS) : pk (f_X4_ofMarket_26 h) (fun a => Fr S_X4_ofMarket_26 h a.2) := by
  unfold f_X4_ofMarket_26
  exact pk_some (Fr_refl _ h)
def S_X4_ofMarket : CL := []
theorem fs_X4_ofMarket_26__X4_ofMarket : ∀ x ∈ S_X4_ofMarket_26, x ∈ S_X4_ofMarket := by decide
theorem w_f_X4_ofMarket (h : HS) (p1 : Int32) (p2 : Int32) : pk (f_X4_ofMarket h p1 p2) (fun a => Fr S_X4_ofMarket h a.2) := by
  unfold f_X4_ofMarket
  refine pk_if (fun _ => ?_) (fun _ => ?_)
  · exact pk_mono (w_f_X4_ofMarket_26 h) (fun _ k => Fr_trans (Fr_refl _ h) (Fr_mono fs_X4_ofMarket_26__X4_ofMarket k))
  · refine pk_if (fun _ => ?_) (fun _ => ?_)
    · exact pk_mono (w_f_X4_ofMarket_26 h) (fun _ k => Fr_trans (Fr_refl _ h) (Fr_mono fs_X4_ofMarket_26__X4_ofMarket k))
    · refine pk_if (fun _ => ?_) (fun _ => ?_)
      · exact pk_mono (w_f_X4_ofMarket_26 h) (fun _ k => Fr_trans (Fr_refl _ h) (Fr_mono fs_X4_ofMarket_26__X4_ofMarket k))
      · refine pk_if (fun _ => ?_) (fun _ => ?_)
        · exact pk_mono (w_f_X4_ofMarket_26 h) (fun _ k => Fr_trans (Fr_refl _ h) (Fr_mono fs_X4_ofMarket_26__X4_ofMarket k))
        · refine pk_if (fun _ => ?_) (fun _ => ?_)
          · refine pk_chk (fun _ => ?_)
            exact pk_some (Fr_refl _ h)
          · exact pk_mono (w_f_X4_ofMarket_26 h) (fun _ k => Fr_trans (Fr_refl _ h) (Fr_mono fs_X4_ofMarket_26__X4_ofMarket k))
def S_X4_addMarket : CL := [(0, 1, 4), (1, 1, 1)]
theorem fm_X4_addMarket_0_1_4 : (0, 1, 4) ∈ S_X4_addMarket := by decide
theorem fm_X4_addMarket_1_1_1 : (1, 1, 1) ∈ S_X4_addMarket := by decide
theorem w_f_X4_addMarket (h : HS) (p1 : Int32) (p2 : Int32) (p3 : Int32) : pk (f_X4_addMarket h p1 p2 p3) (fun a => Fr S_X4_addMarket h a.2) := by
  unfold f_X4_addMarket
  refine pk_if (fun _ => ?_) (fun _ => ?_)
  · refine pk_chk (fun _ => ?_)
    refine pk_chk (fun _ => ?_)
    refine pk_chk (fun _ => ?_)
    exact pk_some (Fr_sI fm_X4_addMarket_0_1_4 (Fr_sA fm_X4_addMarket_1_1_1 (Fr_sA fm_X4_addMarket_1_1_1 (Fr_sA fm_X4_addMarket_1_1_1 (Fr_refl _ h)))))
  · exact pk_some (Fr_refl _ h)
def S_X4_addGoose : CL := [(0, 1, 3), (1, 1, 0)]
theorem fm_X4_addGoose_0_1_3 : (0, 1, 3) ∈ S_X4_addGoose := by decide
theorem fs_X4_setGoose__X4_addGoose : ∀ x ∈ S_X4_setGoose, x ∈ S_X4_addGoose := by decide
theorem w_f_X4_addGoose (h : HS) (p1 : Int32) (p2 : Int32) : pk (f_X4_addGoose h p1 p2) (fun a => Fr S_X4_addGoose h a.2) := by
  unfold f_X4_addGoose
  refine pk_if (fun _ => ?_) (fun _ => ?_)
  · refine pk_ob1 (w_f_X4_setGoose (sI h 1 3 ((eI h 1 3) + 1)) (eI h 1 3) 0 p1) (fun h_2 k_1 => ?_)
    replace k_1 := Fr_trans (Fr_sI fm_X4_addGoose_0_1_3 (Fr_refl _ h)) (Fr_mono fs_X4_setGoose__X4_addGoose k_1)
    refine pk_ob1 (w_f_X4_setGoose h_2 (eI h 1 3) 1 p2) (fun h_3 k_2 => ?_)
    replace k_2 := Fr_trans k_1 (Fr_mono fs_X4_setGoose__X4_addGoose k_2)
    refine pk_ob1 (w_f_X4_setGoose h_3 (eI h 1 3) 2 (-1)) (fun h_4 k_3 => ?_)
    replace k_3 := Fr_trans k_2 (Fr_mono fs_X4_setGoose__X4_addGoose k_3)
    refine pk_ob1 (w_f_X4_setGoose h_4 (eI h 1 3) 3 (-1)) (fun h_5 k_4 => ?_)
    replace k_4 := Fr_trans k_3 (Fr_mono fs_X4_setGoose__X4_addGoose k_4)
    refine pk_ob1 (w_f_X4_setGoose h_5 (eI h 1 3) 4 0) (fun h_6 k_5 => ?_)
    replace k_5 := Fr_trans k_4 (Fr_mono fs_X4_setGoose__X4_addGoose k_5)
    refine pk_ob1 (w_f_X4_setGoose h_6 (eI h 1 3) 5 (-1)) (fun h_7 k_6 => ?_)
    replace k_6 := Fr_trans k_5 (Fr_mono fs_X4_setGoose__X4_addGoose k_6)
    refine pk_ob1 (w_f_X4_setGoose h_7 (eI h 1 3) 6 (-1)) (fun h_8 k_7 => ?_)
    replace k_7 := Fr_trans k_6 (Fr_mono fs_X4_setGoose__X4_addGoose k_7)
    refine pk_ob1 (w_f_X4_setGoose h_8 (eI h 1 3) 7 (-1)) (fun h_9 k_8 => ?_)
    replace k_8 := Fr_trans k_7 (Fr_mono fs_X4_setGoose__X4_addGoose k_8)
    refine pk_ob1 (w_f_X4_setGoose h_9 (eI h 1 3) 8 0) (fun h_10 k_9 => ?_)
    replace k_9 := Fr_trans k_8 (Fr_mono fs_X4_setGoose__X4_addGoose k_9)
    exact pk_some k_9
  · exact pk_some (Fr_refl _ h)
def S_X4_isHome_14 : CL := []
theorem w_f_X4_isHome_14 (h : HS) (y0 : Int32) : pk (f_X4_isHome_14 h y0) (fun a => Fr S_X4_isHome_14 h a.2) := by
  unfold f_X4_isHome_14
  refine pk_chk (fun _ => ?_)
  exact pk_some (Fr_refl _ h)
def S_X4_isHome : CL := []
theorem fs_X4_ofGoose__X4_isHome : ∀ x ∈ S_X4_ofGoose, x ∈ S_X4_isHome := by decide
theorem fs_X4_isHome_14__X4_isHome : ∀ x ∈ S_X4_isHome_14, x ∈ S_X4_isHome := by decide
theorem w_f_X4_isHome (h : HS) (p1 : Int32) : pk (f_X4_isHome h p1) (fun a => Fr S_X4_isHome h a.2) := by
  unfold f_X4_isHome
  refine pk_ob2 (w_f_X4_ofGoose h p1 4) (fun r_1 h_1 k_1 => ?_)
  replace k_1 := Fr_trans (Fr_refl _ h) (Fr_mono fs_X4_ofGoose__X4_isHome k_1)
  refine pk_if (fun _ => ?_) (fun _ => ?_)
  · exact pk_mono (w_f_X4_isHome_14 h_1 1) (fun _ k => Fr_trans k_1 (Fr_mono fs_X4_isHome_14__X4_isHome k))
  · exact pk_mono (w_f_X4_isHome_14 h_1 0) (fun _ k => Fr_trans k_1 (Fr_mono fs_X4_isHome_14__X4_isHome k))
def S_X4_isFree_23 : CL := []
theorem w_f_X4_isFree_23 (h : HS) (y0 : Int32) : pk (f_X4_isFree_23 h y0) (fun a => Fr S_X4_isFree_23 h a.2) := by
  unfold f_X4_isFree_23
  refine pk_chk (fun _ => ?_)
  exact pk_some (Fr_refl _ h)
def S_X4_isFree_22 : CL := []
theorem fs_X4_isFree_23__X4_isFree_22 : ∀ x ∈ S_X4_isFree_23, x ∈ S_X4_isFree_22 := by decide
theorem w_f_X4_isFree_22 (h : HS) : pk (f_X4_isFree_22 h) (fun a => Fr S_X4_isFree_22 h a.2) := by
  unfold f_X4_isFree_22
  exact pk_mono (w_f_X4_isFree_23 h 0) (fun _ k => Fr_trans (Fr_refl _ h) (Fr_mono fs_X4_isFree_23__X4_isFree_22 k))
def S_X4_isFree : CL := []
theorem fs_X4_isHome__X4_isFree : ∀ x ∈ S_X4_isHome, x ∈ S_X4_isFree := by decide
theorem fs_X4_isFree_22__X4_isFree : ∀ x ∈ S_X4_isFree_22, x ∈ S_X4_isFree := by decide
theorem fs_X4_ofGoose__X4_isFree : ∀ x ∈ S_X4_ofGoose, x ∈ S_X4_isFree := by decide
theorem fs_X4_isFree_23__X4_isFree : ∀ x ∈ S_X4_isFree_23, x ∈ S_X4_isFree := by decide
theorem w_f_X4_isFree (h : HS) (p1 : Int32) : pk (f_X4_isFree h p1) (fun a => Fr S_X4_isFree h a.2) := by
  unfold f_X4_isFree
  refine pk_ob2 (w_f_X4_isHome h p1) (fun r_1 h_1 k_1 => ?_)
  replace k_1 := Fr_trans (Fr_refl _ h) (Fr_mono fs_X4_isHome__X4_isFree k_1)
  refine pk_if (fun _ => ?_) (fun _ => ?_)
  · exact pk_mono (w_f_X4_isFree_22 h_1) (fun _ k => Fr_trans k_1 (Fr_mono fs_X4_isFree_22__X4_isFree k))
  · refine pk_ob2 (w_f_X4_ofGoose h_1 p1 8) (fun r_3 h_3 k_2 => ?_)
    replace k_2 := Fr_trans k_1 (Fr_mono fs_X4_ofGoose__X4_isFree k_2)
    refine pk_if (fun _ => ?_) (fun _ => ?_)
    · exact pk_mono (w_f_X4_isFree_23 h_3 1) (fun _ k => Fr_trans k_2 (Fr_mono fs_X4_isFree_23__X4_isFree k))
    · exact pk_mono (w_f_X4_isFree_22 h_3) (fun _ k => Fr_trans k_2 (Fr_mono fs_X4_isFree_22__X4_isFree k))
def S_X4_settle : CL := [(1, 1, 0)]
theorem fs_X4_setGoose__X4_settle : ∀ x ∈ S_X4_setGoose, x ∈ S_X4_settle := by decide
theorem w_f_X4_settle (h : HS) (p1 : Int32) (p2 : Int32) : pk (f_X4_settle h p1 p2) (fun a => Fr S_X4_settle h a) := by
  unfold f_X4_settle
  refine pk_ob1 (w_f_X4_setGoose h p1 4 p2) (fun h_1 k_1 => ?_)
  replace k_1 := Fr_trans (Fr_refl _ h) (Fr_mono fs_X4_setGoose__X4_settle k_1)
  refine pk_ob1 (w_f_X4_setGoose h_1 p1 7 (eI h_1 1 7)) (fun h_2 k_2 => ?_)
  replace k_2 := Fr_trans k_1 (Fr_mono fs_X4_setGoose__X4_settle k_2)
  exact pk_some k_2
def S_X4_countFate_4 : CL := []
theorem w_f_X4_countFate_25 (k4 : HS → Int32 → Int32 → Int32 → Option (Int32 × HS)) (hk_k4 : ∀ (h : HS) (x0 : Int32) (x1 : Int32) (x2 : Int32), pk (k4 h x0 x1 x2) (fun a => Fr S_X4_countFate_4 h a.2)) (h : HS) (x1 : Int32) (x2 : Int32) (x3 : Int32) : pk (f_X4_countFate_25 k4 h x1 x2 x3) (fun a => Fr S_X4_countFate_4 h a.2) := by
  unfold f_X4_countFate_25
  exact pk_mono (hk_k4 h x1 x2 (x3 + 1)) (fun _ k => Fr_trans (Fr_refl _ h) k)
theorem fs_X4_ofGoose__X4_countFate_4 : ∀ x ∈ S_X4_ofGoose, x ∈ S_X4_countFate_4 := by decide
theorem w_f_X4_countFate_4  : ∀ (n : Nat) (h : HS) (x1 : Int32) (x2 : Int32) (x3 : Int32), pk (f_X4_countFate_4  n h x1 x2 x3) (fun a => Fr S_X4_countFate_4 h a.2) := by
  intro n
  induction n with
  | zero => intro h x1 x2 x3; exact pk_none
  | succ n ih =>
    intro h x1 x2 x3
    rw [f_X4_countFate_4_s]
    refine pk_if (fun _ => ?_) (fun _ => ?_)
    · exact pk_some (Fr_refl _ h)
    · refine pk_ob2 (w_f_X4_ofGoose h x3 4) (fun r_2 h_2 k_1 => ?_)
      replace k_1 := Fr_trans (Fr_refl _ h) (Fr_mono fs_X4_ofGoose__X4_countFate_4 k_1)
      refine pk_if (fun _ => ?_) (fun _ => ?_)
      · exact pk_mono (w_f_X4_countFate_25 (f_X4_countFate_4 n) ih h_2 x1 (x2 + 1) x3) (fun _ k => Fr_trans k_1 k)
      · exact pk_mono (w_f_X4_countFate_25 (f_X4_countFate_4 n) ih h_2 x1 x2 x3) (fun _ k => Fr_trans k_1 k)
def S_X4_countFate : CL := []
theorem fs_X4_countFate_4__X4_countFate : ∀ x ∈ S_X4_countFate_4, x ∈ S_X4_countFate := by decide
theorem w_f_X4_countFate (h : HS) (p1 : Int32) : pk (f_X4_countFate h p1) (fun a => Fr S_X4_countFate h a.2) := by
  unfold f_X4_countFate
  exact pk_mono (w_f_X4_countFate_4 8589934592 h p1 0 0) (fun _ k => Fr_trans (Fr_refl _ h) (Fr_mono fs_X4_countFate_4__X4_countFate k))
def S_X4_dailyNeed : CL := []
theorem fs_X4_countFate__X4_dailyNeed : ∀ x ∈ S_X4_countFate, x ∈ S_X4_dailyNeed := by decide
theorem w_f_X4_dailyNeed (h : HS) : pk (f_X4_dailyNeed h) (fun a => Fr S_X4_dailyNeed h a.2) := by
  unfold f_X4_dailyNeed
  refine pk_ob2 (w_f_X4_countFate h 0) (fun r_1 h_1 k_1 => ?_)
  replace k_1 := Fr_trans (Fr_refl _ h) (Fr_mono fs_X4_countFate__X4_dailyNeed k_1)
  exact pk_some k_1
def S_X4_eatDaily_31 : CL := [(0, 1, 5), (1, 1, 0)]
theorem fm_X4_eatDaily_31_0_1_5 : (0, 1, 5) ∈ S_X4_eatDaily_31 := by decide
theorem fs_X4_isFree__X4_eatDaily_31 : ∀ x ∈ S_X4_isFree, x ∈ S_X4_eatDaily_31 := by decide
theorem fs_X4_settle__X4_eatDaily_31 : ∀ x ∈ S_X4_settle, x ∈ S_X4_eatDaily_31 := by decide
theorem fs_X4_ofGoose__X4_eatDaily_31 : ∀ x ∈ S_X4_ofGoose, x ∈ S_X4_eatDaily_31 := by decide
theorem w_f_X4_eatDaily_31  : ∀ (n : Nat) (h : HS) (x2 : Int32), pk (f_X4_eatDaily_31  n h x2) (fun a => Fr S_X4_eatDaily_31 h a) := by
  intro n
  induction n with
  | zero => intro h x2; exact pk_none
  | succ n ih =>
    intro h x2
    rw [f_X4_eatDaily_31_s]
    refine pk_if (fun _ => ?_) (fun _ => ?_)
    · exact pk_some (Fr_refl _ h)
    · refine pk_ob2 (w_f_X4_isFree h x2) (fun r_4 h_4 k_1 => ?_)
      replace k_1 := Fr_trans (Fr_refl _ h) (Fr_mono fs_X4_isFree__X4_eatDaily_31 k_1)
      refine pk_if (fun _ => ?_) (fun _ => ?_)
      · exact pk_mono (ih h_4 (x2 + 1)) (fun _ k => Fr_trans k_1 k)
      · refine pk_ob1 (w_f_X4_settle h_4 x2 5) (fun h_6 k_2 => ?_)
        replace k_2 := Fr_trans k_1 (Fr_mono fs_X4_settle__X4_eatDaily_31 k_2)
        refine pk_ob2 (w_f_X4_ofGoose h_6 x2 0) (fun r_7 h_7 k_3 => ?_)
        replace k_3 := Fr_trans k_2 (Fr_mono fs_X4_ofGoose__X4_eatDaily_31 k_3)
        exact pk_some (Fr_sI fm_X4_eatDaily_31_0_1_5 k_3)
def S_X4_eatDaily : CL := [(0, 1, 5), (1, 1, 0)]
theorem fm_X4_eatDaily_0_1_5 : (0, 1, 5) ∈ S_X4_eatDaily := by decide
theorem fs_X4_dailyNeed__X4_eatDaily : ∀ x ∈ S_X4_dailyNeed, x ∈ S_X4_eatDaily := by decide
theorem fs_X4_eatDaily_31__X4_eatDaily : ∀ x ∈ S_X4_eatDaily_31, x ∈ S_X4_eatDaily := by decide
theorem w_f_X4_eatDaily (h : HS) : pk (f_X4_eatDaily h) (fun a => Fr S_X4_eatDaily h a) := by
  unfold f_X4_eatDaily
  refine pk_ob2 (w_f_X4_dailyNeed h) (fun r_1 h_1 k_1 => ?_)
  replace k_1 := Fr_trans (Fr_refl _ h) (Fr_mono fs_X4_dailyNeed__X4_eatDaily k_1)
  refine pk_if (fun _ => ?_) (fun _ => ?_)
  · exact pk_mono (w_f_X4_eatDaily_31 8589934592 (sI h_1 1 5 0) 0) (fun _ k => Fr_trans (Fr_sI fm_X4_eatDaily_0_1_5 k_1) (Fr_mono fs_X4_eatDaily_31__X4_eatDaily k))
  · exact pk_some (Fr_sI fm_X4_eatDaily_0_1_5 k_1)
def S_X4_draw : CL := [(0, 1, 8)]
theorem fm_X4_draw_0_1_8 : (0, 1, 8) ∈ S_X4_draw := by decide
theorem w_f_X4_draw (h : HS) : pk (f_X4_draw h) (fun a => Fr S_X4_draw h a.2) := by
  unfold f_X4_draw
  exact pk_some (Fr_sI fm_X4_draw_0_1_8 (Fr_refl _ h))
def S_X4_keepStep_69 : CL := []
theorem w_f_X4_keepStep_69 (h : HS) : pk (f_X4_keepStep_69 h) (fun a => Fr S_X4_keepStep_69 h a) := by
  unfold f_X4_keepStep_69
  exact pk_some (Fr_refl _ h)
def S_X4_keepStep_35 : CL := [(1, 1, 2)]
theorem fm_X4_keepStep_35_1_1_2 : (1, 1, 2) ∈ S_X4_keepStep_35 := by decide
theorem fs_X4_keepStep_69__X4_keepStep_35 : ∀ x ∈ S_X4_keepStep_69, x ∈ S_X4_keepStep_35 := by decide
theorem w_f_X4_keepStep_35 (h : HS) : pk (f_X4_keepStep_35 h) (fun a => Fr S_X4_keepStep_35 h a) := by
  unfold f_X4_keepStep_35
  refine pk_if (fun _ => ?_) (fun _ => ?_)
  · exact pk_mono (w_f_X4_keepStep_69 h) (fun _ k => Fr_trans (Fr_refl _ h) (Fr_mono fs_X4_keepStep_69__X4_keepStep_35 k))
  · refine pk_if (fun _ => ?_) (fun _ => ?_)
    · refine pk_chk (fun _ => ?_)
      refine pk_chk (fun _ => ?_)
      refine pk_chk (fun _ => ?_)
      refine pk_chk (fun _ => ?_)
      refine pk_chk (fun _ => ?_)
      refine pk_chk (fun _ => ?_)
      exact pk_some (Fr_sA fm_X4_keepStep_35_1_1_2 (Fr_sA fm_X4_keepStep_35_1_1_2 (Fr_sA fm_X4_keepStep_35_1_1_2 (Fr_sA fm_X4_keepStep_35_1_1_2 (Fr_sA fm_X4_keepStep_35_1_1_2 (Fr_refl _ h))))))
    · exact pk_mono (w_f_X4_keepStep_69 h) (fun _ k => Fr_trans (Fr_refl _ h) (Fr_mono fs_X4_keepStep_69__X4_keepStep_35 k))
def S_X4_keepStep : CL := [(0, 1, 11), (0, 1, 12), (1, 1, 2)]
theorem fm_X4_keepStep_0_1_11 : (0, 1, 11) ∈ S_X4_keepStep := by decide
theorem fm_X4_keepStep_0_1_12 : (0, 1, 12) ∈ S_X4_keepStep := by decide
theorem fs_X4_keepStep_35__X4_keepStep : ∀ x ∈ S_X4_keepStep_35, x ∈ S_X4_keepStep := by decide
theorem w_f_X4_keepStep (h : HS) : pk (f_X4_keepStep h) (fun a => Fr S_X4_keepStep h a) := by
  unfold f_X4_keepStep
  refine pk_if (fun _ => ?_) (fun _ => ?_)
  · exact pk_mono (w_f_X4_keepStep_35 (sI h 1 11 (((eI h 1 11) + 1) - ((eI h 1 11) + 1) / 20 * 20))) (fun _ k => Fr_trans (Fr_sI fm_X4_keepStep_0_1_11 (Fr_refl _ h)) (Fr_mono fs_X4_keepStep_35__X4_keepStep k))
  · exact pk_mono (w_f_X4_keepStep_35 (sI h 1 12 ((eI h 1 12) + 1))) (fun _ k => Fr_trans (Fr_sI fm_X4_keepStep_0_1_12 (Fr_refl _ h)) (Fr_mono fs_X4_keepStep_35__X4_keepStep k))
def S_X4_takeStepBack_42 : CL := []
theorem w_f_X4_takeStepBack_42 (h : HS) : pk (f_X4_takeStepBack_42 h) (fun a => Fr S_X4_takeStepBack_42 h a.2) := by
  unfold f_X4_takeStepBack_42
  exact pk_some (Fr_refl _ h)
def S_X4_takeStepBack : CL := [(0, 1, 5), (0, 1, 7), (0, 1, 8), (0, 1, 12), (1, 1, 0)]
theorem fm_X4_takeStepBack_0_1_8 : (0, 1, 8) ∈ S_X4_takeStepBack := by decide
theorem fm_X4_takeStepBack_0_1_7 : (0, 1, 7) ∈ S_X4_takeStepBack := by decide
theorem fm_X4_takeStepBack_0_1_5 : (0, 1, 5) ∈ S_X4_takeStepBack := by decide
theorem fm_X4_takeStepBack_1_1_0 : (1, 1, 0) ∈ S_X4_takeStepBack := by decide
theorem fm_X4_takeStepBack_0_1_12 : (0, 1, 12) ∈ S_X4_takeStepBack := by decide
theorem fs_X4_takeStepBack_42__X4_takeStepBack : ∀ x ∈ S_X4_takeStepBack_42, x ∈ S_X4_takeStepBack := by decide
theorem w_f_X4_takeStepBack (h : HS) : pk (f_X4_takeStepBack h) (fun a => Fr S_X4_takeStepBack h a.2) := by
  unfold f_X4_takeStepBack
  refine pk_if (fun _ => ?_) (fun _ => ?_)
  · exact pk_mono (w_f_X4_takeStepBack_42 h) (fun _ k => Fr_trans (Fr_refl _ h) (Fr_mono fs_X4_takeStepBack_42__X4_takeStepBack k))
  · refine pk_if (fun _ => ?_) (fun _ => ?_)
    · exact pk_mono (w_f_X4_takeStepBack_42 h) (fun _ k => Fr_trans (Fr_refl _ h) (Fr_mono fs_X4_takeStepBack_42__X4_takeStepBack k))
    · refine pk_if (fun _ => ?_) (fun _ => ?_)
      · refine pk_chk (fun _ => ?_)
        refine pk_chk (fun _ => ?_)
        refine pk_chk (fun _ => ?_)
        refine pk_chk (fun _ => ?_)
        refine pk_chk (fun _ => ?_)
        refine pk_chk (fun _ => ?_)
        refine pk_chk (fun _ => ?_)
        refine pk_chk (fun _ => ?_)
        exact pk_some (Fr_sI fm_X4_takeStepBack_0_1_8 (Fr_sI fm_X4_takeStepBack_0_1_7 (Fr_sI fm_X4_takeStepBack_0_1_5 (Fr_sA fm_X4_takeStepBack_1_1_0 (Fr_sI fm_X4_takeStepBack_0_1_12 (Fr_refl _ h))))))
      · exact pk_mono (w_f_X4_takeStepBack_42 h) (fun _ k => Fr_trans (Fr_refl _ h) (Fr_mono fs_X4_takeStepBack_42__X4_takeStepBack k))
def S_X4_copyFrom_i : CL := [(0, 2, 3), (0, 2, 4), (0, 2, 5), (0, 2, 6), (0, 2, 7), (0, 2, 8), (0, 2, 9), (0, 2, 10), (0, 2, 11), (0, 2, 12), (1, 2, 0), (1, 2, 1), (1, 2, 2)]
theorem fm_X4_copyFrom_i_0_2_12 : (0, 2, 12) ∈ S_X4_copyFrom_i := by decide
theorem fm_X4_copyFrom_i_0_2_11 : (0, 2, 11) ∈ S_X4_copyFrom_i := by decide
theorem fm_X4_copyFrom_i_0_2_10 : (0, 2, 10) ∈ S_X4_copyFrom_i := by decide
theorem fm_X4_copyFrom_i_0_2_9 : (0, 2, 9) ∈ S_X4_copyFrom_i := by decide
theorem fm_X4_copyFrom_i_0_2_8 : (0, 2, 8) ∈ S_X4_copyFrom_i := by decide
theorem fm_X4_copyFrom_i_0_2_7 : (0, 2, 7) ∈ S_X4_copyFrom_i := by decide
theorem fm_X4_copyFrom_i_0_2_6 : (0, 2, 6) ∈ S_X4_copyFrom_i := by decide
theorem fm_X4_copyFrom_i_0_2_5 : (0, 2, 5) ∈ S_X4_copyFrom_i := by decide
theorem fm_X4_copyFrom_i_0_2_4 : (0, 2, 4) ∈ S_X4_copyFrom_i := by decide
theorem fm_X4_copyFrom_i_0_2_3 : (0, 2, 3) ∈ S_X4_copyFrom_i := by decide
theorem fm_X4_copyFrom_i_1_2_2 : (1, 2, 2) ∈ S_X4_copyFrom_i := by decide
theorem fm_X4_copyFrom_i_1_2_1 : (1, 2, 1) ∈ S_X4_copyFrom_i := by decide
theorem fm_X4_copyFrom_i_1_2_0 : (1, 2, 0) ∈ S_X4_copyFrom_i := by decide
theorem w_f_X4_copyFrom_i (h : HS) : pk (f_X4_copyFrom_i h) (fun a => Fr S_X4_copyFrom_i h a) := by
  unfold f_X4_copyFrom_i
  exact pk_some (Fr_sI fm_X4_copyFrom_i_0_2_12 (Fr_sI fm_X4_copyFrom_i_0_2_11 (Fr_sI fm_X4_copyFrom_i_0_2_10 (Fr_sI fm_X4_copyFrom_i_0_2_9 (Fr_sI fm_X4_copyFrom_i_0_2_8 (Fr_sI fm_X4_copyFrom_i_0_2_7 (Fr_sI fm_X4_copyFrom_i_0_2_6 (Fr_sI fm_X4_copyFrom_i_0_2_5 (Fr_sI fm_X4_copyFrom_i_0_2_4 (Fr_sI fm_X4_copyFrom_i_0_2_3 (Fr_sA fm_X4_copyFrom_i_1_2_2 (Fr_sA fm_X4_copyFrom_i_1_2_1 (Fr_sA fm_X4_copyFrom_i_1_2_0 (Fr_refl _ h))))))))))))))
def S_X4_copyFrom_b : CL := [(0, 1, 3), (0, 1, 4), (0, 1, 5), (0, 1, 6), (0, 1, 7), (0, 1, 8), (0, 1, 9), (0, 1, 10), (0, 1, 11), (0, 1, 12), (1, 1, 0), (1, 1, 1), (1, 1, 2)]
theorem fm_X4_copyFrom_b_0_1_12 : (0, 1, 12) ∈ S_X4_copyFrom_b := by decide
theorem fm_X4_copyFrom_b_0_1_11 : (0, 1, 11) ∈ S_X4_copyFrom_b := by decide
theorem fm_X4_copyFrom_b_0_1_10 : (0, 1, 10) ∈ S_X4_copyFrom_b := by decide
theorem fm_X4_copyFrom_b_0_1_9 : (0, 1, 9) ∈ S_X4_copyFrom_b := by decide
theorem fm_X4_copyFrom_b_0_1_8 : (0, 1, 8) ∈ S_X4_copyFrom_b := by decide
theorem fm_X4_copyFrom_b_0_1_7 : (0, 1, 7) ∈ S_X4_copyFrom_b := by decide
theorem fm_X4_copyFrom_b_0_1_6 : (0, 1, 6) ∈ S_X4_copyFrom_b := by decide
theorem fm_X4_copyFrom_b_0_1_5 : (0, 1, 5) ∈ S_X4_copyFrom_b := by decide
theorem fm_X4_copyFrom_b_0_1_4 : (0, 1, 4) ∈ S_X4_copyFrom_b := by decide
theorem fm_X4_copyFrom_b_0_1_3 : (0, 1, 3) ∈ S_X4_copyFrom_b := by decide
theorem fm_X4_copyFrom_b_1_1_2 : (1, 1, 2) ∈ S_X4_copyFrom_b := by decide
theorem fm_X4_copyFrom_b_1_1_1 : (1, 1, 1) ∈ S_X4_copyFrom_b := by decide
theorem fm_X4_copyFrom_b_1_1_0 : (1, 1, 0) ∈ S_X4_copyFrom_b := by decide
theorem w_f_X4_copyFrom_b (h : HS) : pk (f_X4_copyFrom_b h) (fun a => Fr S_X4_copyFrom_b h a) := by
  unfold f_X4_copyFrom_b
  exact pk_some (Fr_sI fm_X4_copyFrom_b_0_1_12 (Fr_sI fm_X4_copyFrom_b_0_1_11 (Fr_sI fm_X4_copyFrom_b_0_1_10 (Fr_sI fm_X4_copyFrom_b_0_1_9 (Fr_sI fm_X4_copyFrom_b_0_1_8 (Fr_sI fm_X4_copyFrom_b_0_1_7 (Fr_sI fm_X4_copyFrom_b_0_1_6 (Fr_sI fm_X4_copyFrom_b_0_1_5 (Fr_sI fm_X4_copyFrom_b_0_1_4 (Fr_sI fm_X4_copyFrom_b_0_1_3 (Fr_sA fm_X4_copyFrom_b_1_1_2 (Fr_sA fm_X4_copyFrom_b_1_1_1 (Fr_sA fm_X4_copyFrom_b_1_1_0 (Fr_refl _ h))))))))))))))
def S_X5_addFour_3 : CL := [(0, 3, 1), (1, 3, 0)]
theorem w_f_X5_addFour_45 (k3 : HS → Int32 → Int32 → Option HS) (hk_k3 : ∀ (h : HS) (x0 : Int32) (x1 : Int32), pk (k3 h x0 x1) (fun a => Fr S_X5_addFour_3 h a)) (h : HS) (x1 : Int32) (x2 : Int32) : pk (f_X5_addFour_45 k3 h x1 x2) (fun a => Fr S_X5_addFour_3 h a) := by
  unfold f_X5_addFour_45
  exact pk_mono (hk_k3 h x1 (x2 + (-8))) (fun _ k => Fr_trans (Fr_refl _ h) k)
theorem fm_X5_addFour_3_0_3_1 : (0, 3, 1) ∈ S_X5_addFour_3 := by decide
theorem fm_X5_addFour_3_1_3_0 : (1, 3, 0) ∈ S_X5_addFour_3 := by decide
theorem w_f_X5_addFour_3  : ∀ (n : Nat) (h : HS) (x1 : Int32) (x2 : Int32), pk (f_X5_addFour_3  n h x1 x2) (fun a => Fr S_X5_addFour_3 h a) := by
  intro n
  induction n with
  | zero => intro h x1 x2; exact pk_none
  | succ n ih =>
    intro h x1 x2
    rw [f_X5_addFour_3_s]
    refine pk_if (fun _ => ?_) (fun _ => ?_)
    · exact pk_some (Fr_refl _ h)
    · refine pk_if (fun _ => ?_) (fun _ => ?_)
      · exact pk_mono (w_f_X5_addFour_45 (f_X5_addFour_3 n) ih h x1 x2) (fun _ k => Fr_trans (Fr_refl _ h) k)
      · refine pk_chk (fun _ => ?_)
        exact pk_mono (w_f_X5_addFour_45 (f_X5_addFour_3 n) ih (sI (sA h 3 0 (upd (eA h 3 0) (((eI h 3 1)).toNatClampNeg) ((x1 >>> (x2 &&& 31)) &&& 255))) 3 1 ((eI h 3 1) + 1)) x1 x2) (fun _ k => Fr_trans (Fr_sI fm_X5_addFour_3_0_3_1 (Fr_sA fm_X5_addFour_3_1_3_0 (Fr_refl _ h))) k)
def S_X5_addFour : CL := [(0, 3, 1), (1, 3, 0)]
theorem fs_X5_addFour_3__X5_addFour : ∀ x ∈ S_X5_addFour_3, x ∈ S_X5_addFour := by decide
theorem w_f_X5_addFour (h : HS) (p1 : Int32) : pk (f_X5_addFour h p1) (fun a => Fr S_X5_addFour h a) := by
  unfold f_X5_addFour
  exact pk_mono (w_f_X5_addFour_3 8589934592 h p1 24) (fun _ k => Fr_trans (Fr_refl _ h) (Fr_mono fs_X5_addFour_3__X5_addFour k))
def S_X5_byteAt_31 : CL := []
theorem w_f_X5_byteAt_31 (h : HS) (y0 : Int32) : pk (f_X5_byteAt_31 h y0) (fun a => Fr S_X5_byteAt_31 h a.2) := by
  unfold f_X5_byteAt_31
  exact pk_some (Fr_refl _ h)
def S_X5_byteAt_30 : CL := []
theorem fs_X5_byteAt_31__X5_byteAt_30 : ∀ x ∈ S_X5_byteAt_31, x ∈ S_X5_byteAt_30 := by decide
theorem w_f_X5_byteAt_30 (h : HS) : pk (f_X5_byteAt_30 h) (fun a => Fr S_X5_byteAt_30 h a.2) := by
  unfold f_X5_byteAt_30
  exact pk_mono (w_f_X5_byteAt_31 h 0) (fun _ k => Fr_trans (Fr_refl _ h) (Fr_mono fs_X5_byteAt_31__X5_byteAt_30 k))
def S_X5_byteAt : CL := []
theorem fs_X5_byteAt_30__X5_byteAt : ∀ x ∈ S_X5_byteAt_30, x ∈ S_X5_byteAt := by decide
theorem fs_X5_byteAt_31__X5_byteAt : ∀ x ∈ S_X5_byteAt_31, x ∈ S_X5_byteAt := by decide
theorem w_f_X5_byteAt (h : HS) (p1 : Int32) : pk (f_X5_byteAt h p1) (fun a => Fr S_X5_byteAt h a.2) := by
  unfold f_X5_byteAt
  refine pk_if (fun _ => ?_) (fun _ => ?_)
  · exact pk_mono (w_f_X5_byteAt_30 h) (fun _ k => Fr_trans (Fr_refl _ h) (Fr_mono fs_X5_byteAt_30__X5_byteAt k))
  · refine pk_if (fun _ => ?_) (fun _ => ?_)
    · exact pk_mono (w_f_X5_byteAt_30 h) (fun _ k => Fr_trans (Fr_refl _ h) (Fr_mono fs_X5_byteAt_30__X5_byteAt k))
    · refine pk_if (fun _ => ?_) (fun _ => ?_)
      · exact pk_mono (w_f_X5_byteAt_30 h) (fun _ k => Fr_trans (Fr_refl _ h) (Fr_mono fs_X5_byteAt_30__X5_byteAt k))
      · refine pk_chk (fun _ => ?_)
        exact pk_mono (w_f_X5_byteAt_31 h ((eA h 3 0) ((p1).toNatClampNeg))) (fun _ k => Fr_trans (Fr_refl _ h) (Fr_mono fs_X5_byteAt_31__X5_byteAt k))
def S_X7_kind_36 : CL := []
theorem w_f_X7_kind_36 (h : HS) (y0 : Int32) : pk (f_X7_kind_36 h y0) (fun a => Fr S_X7_kind_36 h a.2) := by
  unfold f_X7_kind_36
  exact pk_some (Fr_refl _ h)
def S_X7_kind_35 : CL := []
theorem fs_X7_kind_36__X7_kind_35 : ∀ x ∈ S_X7_kind_36, x ∈ S_X7_kind_35 := by decide
theorem w_f_X7_kind_35 (h : HS) : pk (f_X7_kind_35 h) (fun a => Fr S_X7_kind_35 h a.2) := by
  unfold f_X7_kind_35
  exact pk_mono (w_f_X7_kind_36 h 0) (fun _ k => Fr_trans (Fr_refl _ h) (Fr_mono fs_X7_kind_36__X7_kind_35 k))
def S_X7_kind : CL := []
theorem fs_X7_kind_35__X7_kind : ∀ x ∈ S_X7_kind_35, x ∈ S_X7_kind := by decide
theorem fs_X7_kind_36__X7_kind : ∀ x ∈ S_X7_kind_36, x ∈ S_X7_kind := by decide
theorem w_f_X7_kind (h : HS) : pk (f_X7_kind h) (fun a => Fr S_X7_kind h a.2) := by
  unfold f_X7_kind
  refine pk_if (fun _ => ?_) (fun _ => ?_)
  · exact pk_mono (w_f_X7_kind_35 h) (fun _ k => Fr_trans (Fr_refl _ h) (Fr_mono fs_X7_kind_35__X7_kind k))
  · refine pk_if (fun _ => ?_) (fun _ => ?_)
    · exact pk_mono (w_f_X7_kind_35 h) (fun _ k => Fr_trans (Fr_refl _ h) (Fr_mono fs_X7_kind_35__X7_kind k))
    · refine pk_chk (fun _ => ?_)
      exact pk_mono (w_f_X7_kind_36 h ((eA h 4 0) (((eI h 4 4)).toNatClampNeg))) (fun _ k => Fr_trans (Fr_refl _ h) (Fr_mono fs_X7_kind_36__X7_kind k))
def S_X7_start_36 : CL := []
theorem w_f_X7_start_36 (h : HS) (y0 : Int32) : pk (f_X7_start_36 h y0) (fun a => Fr S_X7_start_36 h a.2) := by
  unfold f_X7_start_36
  exact pk_some (Fr_refl _ h)
def S_X7_start_35 : CL := []
theorem fs_X7_start_36__X7_start_35 : ∀ x ∈ S_X7_start_36, x ∈ S_X7_start_35 := by decide
theorem w_f_X7_start_35 (h : HS) : pk (f_X7_start_35 h) (fun a => Fr S_X7_start_35 h a.2) := by
  unfold f_X7_start_35
  exact pk_mono (w_f_X7_start_36 h 0) (fun _ k => Fr_trans (Fr_refl _ h) (Fr_mono fs_X7_start_36__X7_start_35 k))
def S_X7_start : CL := []
theorem fs_X7_start_35__X7_start : ∀ x ∈ S_X7_start_35, x ∈ S_X7_start := by decide
theorem fs_X7_start_36__X7_start : ∀ x ∈ S_X7_start_36, x ∈ S_X7_start := by decide
theorem w_f_X7_start (h : HS) : pk (f_X7_start h) (fun a => Fr S_X7_start h a.2) := by
  unfold f_X7_start
  refine pk_if (fun _ => ?_) (fun _ => ?_)
  · exact pk_mono (w_f_X7_start_35 h) (fun _ k => Fr_trans (Fr_refl _ h) (Fr_mono fs_X7_start_35__X7_start k))
  · refine pk_if (fun _ => ?_) (fun _ => ?_)
    · exact pk_mono (w_f_X7_start_35 h) (fun _ k => Fr_trans (Fr_refl _ h) (Fr_mono fs_X7_start_35__X7_start k))
    · refine pk_chk (fun _ => ?_)
      exact pk_mono (w_f_X7_start_36 h ((eA h 4 1) (((eI h 4 4)).toNatClampNeg))) (fun _ k => Fr_trans (Fr_refl _ h) (Fr_mono fs_X7_start_36__X7_start k))
def S_X7_value_36 : CL := []
theorem w_f_X7_value_36 (h : HS) (y0 : Int32) : pk (f_X7_value_36 h y0) (fun a => Fr S_X7_value_36 h a.2) := by
  unfold f_X7_value_36
  exact pk_some (Fr_refl _ h)
def S_X7_value_35 : CL := []
theorem fs_X7_value_36__X7_value_35 : ∀ x ∈ S_X7_value_36, x ∈ S_X7_value_35 := by decide
theorem w_f_X7_value_35 (h : HS) : pk (f_X7_value_35 h) (fun a => Fr S_X7_value_35 h a.2) := by
  unfold f_X7_value_35
  exact pk_mono (w_f_X7_value_36 h 0) (fun _ k => Fr_trans (Fr_refl _ h) (Fr_mono fs_X7_value_36__X7_value_35 k))
def S_X7_value : CL := []
theorem fs_X7_value_35__X7_value : ∀ x ∈ S_X7_value_35, x ∈ S_X7_value := by decide
theorem fs_X7_value_36__X7_value : ∀ x ∈ S_X7_value_36, x ∈ S_X7_value := by decide
theorem w_f_X7_value (h : HS) : pk (f_X7_value h) (fun a => Fr S_X7_value h a.2) := by
  unfold f_X7_value
  refine pk_if (fun _ => ?_) (fun _ => ?_)
  · exact pk_mono (w_f_X7_value_35 h) (fun _ k => Fr_trans (Fr_refl _ h) (Fr_mono fs_X7_value_35__X7_value k))
  · refine pk_if (fun _ => ?_) (fun _ => ?_)
    · exact pk_mono (w_f_X7_value_35 h) (fun _ k => Fr_trans (Fr_refl _ h) (Fr_mono fs_X7_value_35__X7_value k))
    · refine pk_chk (fun _ => ?_)
      exact pk_mono (w_f_X7_value_36 h ((eA h 4 2) (((eI h 4 4)).toNatClampNeg))) (fun _ k => Fr_trans (Fr_refl _ h) (Fr_mono fs_X7_value_36__X7_value k))
def S_X7_advance_23 : CL := []
theorem w_f_X7_advance_23 (h : HS) : pk (f_X7_advance_23 h) (fun a => Fr S_X7_advance_23 h a) := by
  unfold f_X7_advance_23
  exact pk_some (Fr_refl _ h)
def S_X7_advance : CL := [(0, 4, 4)]
theorem fm_X7_advance_0_4_4 : (0, 4, 4) ∈ S_X7_advance := by decide
theorem fs_X7_advance_23__X7_advance : ∀ x ∈ S_X7_advance_23, x ∈ S_X7_advance := by decide
theorem w_f_X7_advance (h : HS) : pk (f_X7_advance h) (fun a => Fr S_X7_advance h a) := by
  unfold f_X7_advance
  refine pk_if (fun _ => ?_) (fun _ => ?_)
  · exact pk_mono (w_f_X7_advance_23 h) (fun _ k => Fr_trans (Fr_refl _ h) (Fr_mono fs_X7_advance_23__X7_advance k))
  · exact pk_mono (w_f_X7_advance_23 (sI h 4 4 ((eI h 4 4) + 1))) (fun _ k => Fr_trans (Fr_sI fm_X7_advance_0_4_4 (Fr_refl _ h)) (Fr_mono fs_X7_advance_23__X7_advance k))
def S_X7_add_76 : CL := []
theorem w_f_X7_add_76 (h : HS) : pk (f_X7_add_76 h) (fun a => Fr S_X7_add_76 h a) := by
  unfold f_X7_add_76
  exact pk_some (Fr_refl _ h)
def S_X7_add : CL := [(0, 4, 3), (1, 4, 0), (1, 4, 1), (1, 4, 2)]
theorem fm_X7_add_0_4_3 : (0, 4, 3) ∈ S_X7_add := by decide
theorem fm_X7_add_1_4_2 : (1, 4, 2) ∈ S_X7_add := by decide
theorem fm_X7_add_1_4_1 : (1, 4, 1) ∈ S_X7_add := by decide
theorem fm_X7_add_1_4_0 : (1, 4, 0) ∈ S_X7_add := by decide
theorem fs_X7_add_76__X7_add : ∀ x ∈ S_X7_add_76, x ∈ S_X7_add := by decide
theorem w_f_X7_add (h : HS) (p1 : Int32) (p2 : Int32) (p3 : Int32) : pk (f_X7_add h p1 p2 p3) (fun a => Fr S_X7_add h a) := by
  unfold f_X7_add
  refine pk_if (fun _ => ?_) (fun _ => ?_)
  · exact pk_mono (w_f_X7_add_76 h) (fun _ k => Fr_trans (Fr_refl _ h) (Fr_mono fs_X7_add_76__X7_add k))
  · refine pk_chk (fun _ => ?_)
    refine pk_chk (fun _ => ?_)
    refine pk_chk (fun _ => ?_)
    exact pk_mono (w_f_X7_add_76 (sI (sA (sA (sA h 4 0 (upd (eA h 4 0) (((eI h 4 3)).toNatClampNeg) p1)) 4 1 (upd (eA h 4 1) (((eI h 4 3)).toNatClampNeg) p2)) 4 2 (upd (eA h 4 2) (((eI h 4 3)).toNatClampNeg) p3)) 4 3 ((eI h 4 3) + 1))) (fun _ k => Fr_trans (Fr_sI fm_X7_add_0_4_3 (Fr_sA fm_X7_add_1_4_2 (Fr_sA fm_X7_add_1_4_1 (Fr_sA fm_X7_add_1_4_0 (Fr_refl _ h))))) (Fr_mono fs_X7_add_76__X7_add k))
def S_X7_splitNumber_52 : CL := [(0, 4, 3), (1, 4, 0), (1, 4, 1), (1, 4, 2)]
theorem fs_X7_add__X7_splitNumber_52 : ∀ x ∈ S_X7_add, x ∈ S_X7_splitNumber_52 := by decide
theorem w_f_X7_splitNumber_52 (h : HS) (x2 : Int32) (x3 : Int32) (x4 : Int32) : pk (f_X7_splitNumber_52 h x2 x3 x4) (fun a => Fr S_X7_splitNumber_52 h a.2) := by
  unfold f_X7_splitNumber_52
  refine pk_ob1 (w_f_X7_add h 2 x2 x4) (fun h_6 k_1 => ?_)
  replace k_1 := Fr_trans (Fr_refl _ h) (Fr_mono fs_X7_add__X7_splitNumber_52 k_1)
  exact pk_some k_1
def S_X7_splitNumber_5 : CL := [(0, 4, 3), (1, 4, 0), (1, 4, 1), (1, 4, 2)]
theorem fs_X7_splitNumber_52__X7_splitNumber_5 : ∀ x ∈ S_X7_splitNumber_52, x ∈ S_X7_splitNumber_5 := by decide
theorem fs_X5_byteAt__X7_splitNumber_5 : ∀ x ∈ S_X5_byteAt, x ∈ S_X7_splitNumber_5 := by decide
theorem w_f_X7_splitNumber_5  : ∀ (n : Nat) (h : HS) (x2 : Int32) (x3 : Int32) (x4 : Int32), pk (f_X7_splitNumber_5  n h x2 x3 x4) (fun a => Fr S_X7_splitNumber_5 h a.2) := by
  intro n
  induction n with
  | zero => intro h x2 x3 x4; exact pk_none
  | succ n ih =>
    intro h x2 x3 x4
    rw [f_X7_splitNumber_5_s]
    refine pk_if (fun _ => ?_) (fun _ => ?_)
    · exact pk_mono (w_f_X7_splitNumber_52 h x2 x3 x4) (fun _ k => Fr_trans (Fr_refl _ h) (Fr_mono fs_X7_splitNumber_52__X7_splitNumber_5 k))
    · refine pk_ob2 (w_f_X5_byteAt h x3) (fun r_2 h_2 k_1 => ?_)
      replace k_1 := Fr_trans (Fr_refl _ h) (Fr_mono fs_X5_byteAt__X7_splitNumber_5 k_1)
      refine pk_obf (fun r_3 => ?_)
      refine pk_if (fun _ => ?_) (fun _ => ?_)
      · exact pk_mono (w_f_X7_splitNumber_52 h_2 x2 x3 x4) (fun _ k => Fr_trans k_1 (Fr_mono fs_X7_splitNumber_52__X7_splitNumber_5 k))
      · refine pk_ob2 (w_f_X5_byteAt h_2 x3) (fun r_5 h_5 k_2 => ?_)
        replace k_2 := Fr_trans k_1 (Fr_mono fs_X5_byteAt__X7_splitNumber_5 k_2)
        exact pk_mono (ih h_5 x2 (x3 + 1) (if (((x4 * 10) + r_5) - 48) < 10000 then (((x4 * 10) + r_5) - 48) else 10000)) (fun _ k => Fr_trans k_2 k)
def S_X7_splitNumber : CL := [(0, 4, 3), (1, 4, 0), (1, 4, 1), (1, 4, 2)]
theorem fs_X7_splitNumber_5__X7_splitNumber : ∀ x ∈ S_X7_splitNumber_5, x ∈ S_X7_splitNumber := by decide
theorem w_f_X7_splitNumber (h : HS) (p1 : Int32) : pk (f_X7_splitNumber h p1) (fun a => Fr S_X7_splitNumber h a.2) := by
  unfold f_X7_splitNumber
  exact pk_mono (w_f_X7_splitNumber_5 8589934592 h p1 p1 0) (fun _ k => Fr_trans (Fr_refl _ h) (Fr_mono fs_X7_splitNumber_5__X7_splitNumber k))
def S_X7_splitSign_76 : CL := []
theorem w_f_X7_splitSign_76 (h : HS) (y0 : Int32) : pk (f_X7_splitSign_76 h y0) (fun a => Fr S_X7_splitSign_76 h a.2) := by
  unfold f_X7_splitSign_76
  exact pk_some (Fr_refl _ h)
def S_X7_splitSign_55 : CL := [(0, 4, 3), (1, 4, 0), (1, 4, 1), (1, 4, 2)]
theorem fs_X7_add__X7_splitSign_55 : ∀ x ∈ S_X7_add, x ∈ S_X7_splitSign_55 := by decide
theorem fs_X7_splitSign_76__X7_splitSign_55 : ∀ x ∈ S_X7_splitSign_76, x ∈ S_X7_splitSign_55 := by decide
theorem w_f_X7_splitSign_55 (h : HS) (x2 : Int32) (x3 : Int32) (x4 : Int32) : pk (f_X7_splitSign_55 h x2 x3 x4) (fun a => Fr S_X7_splitSign_55 h a.2) := by
  unfold f_X7_splitSign_55
  refine pk_ob1 (w_f_X7_add h x3 x2 0) (fun h_9 k_1 => ?_)
  replace k_1 := Fr_trans (Fr_refl _ h) (Fr_mono fs_X7_add__X7_splitSign_55 k_1)
  refine pk_if (fun _ => ?_) (fun _ => ?_)
  · exact pk_mono (w_f_X7_splitSign_76 h_9 (x2 + 1)) (fun _ k => Fr_trans k_1 (Fr_mono fs_X7_splitSign_76__X7_splitSign_55 k))
  · exact pk_mono (w_f_X7_splitSign_76 h_9 (x2 + 2)) (fun _ k => Fr_trans k_1 (Fr_mono fs_X7_splitSign_76__X7_splitSign_55 k))
def S_X7_splitSign_54 : CL := [(0, 4, 3), (1, 4, 0), (1, 4, 1), (1, 4, 2)]
theorem fs_X7_splitSign_55__X7_splitSign_54 : ∀ x ∈ S_X7_splitSign_55, x ∈ S_X7_splitSign_54 := by decide
theorem w_f_X7_splitSign_54 (h : HS) (x2 : Int32) (x4 : Int32) (y0 : Int32) : pk (f_X7_splitSign_54 h x2 x4 y0) (fun a => Fr S_X7_splitSign_54 h a.2) := by
  unfold f_X7_splitSign_54
  exact pk_mono (w_f_X7_splitSign_55 h x2 y0 x4) (fun _ k => Fr_trans (Fr_refl _ h) (Fr_mono fs_X7_splitSign_55__X7_splitSign_54 k))
def S_X7_splitSign_36 : CL := [(0, 4, 3), (1, 4, 0), (1, 4, 1), (1, 4, 2)]
theorem fs_X7_splitSign_55__X7_splitSign_36 : ∀ x ∈ S_X7_splitSign_55, x ∈ S_X7_splitSign_36 := by decide
theorem fs_X7_splitSign_54__X7_splitSign_36 : ∀ x ∈ S_X7_splitSign_54, x ∈ S_X7_splitSign_36 := by decide
theorem w_f_X7_splitSign_36 (h : HS) (x2 : Int32) (x3 : Int32) (y0 : Int32) : pk (f_X7_splitSign_36 h x2 x3 y0) (fun a => Fr S_X7_splitSign_36 h a.2) := by
  unfold f_X7_splitSign_36
  refine pk_if (fun _ => ?_) (fun _ => ?_)
  · exact pk_mono (w_f_X7_splitSign_55 h x2 x3 y0) (fun _ k => Fr_trans (Fr_refl _ h) (Fr_mono fs_X7_splitSign_55__X7_splitSign_36 k))
  · refine pk_if (fun _ => ?_) (fun _ => ?_)
    · exact pk_mono (w_f_X7_splitSign_54 h x2 y0 4) (fun _ k => Fr_trans (Fr_refl _ h) (Fr_mono fs_X7_splitSign_54__X7_splitSign_36 k))
    · exact pk_mono (w_f_X7_splitSign_54 h x2 y0 6) (fun _ k => Fr_trans (Fr_refl _ h) (Fr_mono fs_X7_splitSign_54__X7_splitSign_36 k))
def S_X7_splitSign_35 : CL := [(0, 4, 3), (1, 4, 0), (1, 4, 1), (1, 4, 2)]
theorem fs_X7_splitSign_36__X7_splitSign_35 : ∀ x ∈ S_X7_splitSign_36, x ∈ S_X7_splitSign_35 := by decide
theorem w_f_X7_splitSign_35 (h : HS) (x2 : Int32) (x3 : Int32) : pk (f_X7_splitSign_35 h x2 x3) (fun a => Fr S_X7_splitSign_35 h a.2) := by
  unfold f_X7_splitSign_35
  exact pk_mono (w_f_X7_splitSign_36 h x2 x3 0) (fun _ k => Fr_trans (Fr_refl _ h) (Fr_mono fs_X7_splitSign_36__X7_splitSign_35 k))
def S_X7_splitSign_19 : CL := [(0, 4, 3), (1, 4, 0), (1, 4, 1), (1, 4, 2)]
theorem fs_X5_byteAt__X7_splitSign_19 : ∀ x ∈ S_X5_byteAt, x ∈ S_X7_splitSign_19 := by decide
theorem fs_X7_splitSign_36__X7_splitSign_19 : ∀ x ∈ S_X7_splitSign_36, x ∈ S_X7_splitSign_19 := by decide
theorem fs_X7_splitSign_35__X7_splitSign_19 : ∀ x ∈ S_X7_splitSign_35, x ∈ S_X7_splitSign_19 := by decide
theorem w_f_X7_splitSign_19 (h : HS) (x2 : Int32) (x3 : Int32) : pk (f_X7_splitSign_19 h x2 x3) (fun a => Fr S_X7_splitSign_19 h a.2) := by
  unfold f_X7_splitSign_19
  refine pk_ob2 (w_f_X5_byteAt h (x2 + 1)) (fun r_5 h_5 k_1 => ?_)
  replace k_1 := Fr_trans (Fr_refl _ h) (Fr_mono fs_X5_byteAt__X7_splitSign_19 k_1)
  refine pk_if (fun _ => ?_) (fun _ => ?_)
  · exact pk_mono (w_f_X7_splitSign_36 h_5 x2 x3 1) (fun _ k => Fr_trans k_1 (Fr_mono fs_X7_splitSign_36__X7_splitSign_19 k))
  · exact pk_mono (w_f_X7_splitSign_35 h_5 x2 x3) (fun _ k => Fr_trans k_1 (Fr_mono fs_X7_splitSign_35__X7_splitSign_19 k))
def S_X7_splitSign : CL := [(0, 4, 3), (1, 4, 0), (1, 4, 1), (1, 4, 2)]
theorem fs_X5_byteAt__X7_splitSign : ∀ x ∈ S_X5_byteAt, x ∈ S_X7_splitSign := by decide
theorem fs_X7_splitSign_19__X7_splitSign : ∀ x ∈ S_X7_splitSign_19, x ∈ S_X7_splitSign := by decide
theorem fs_X7_splitSign_35__X7_splitSign : ∀ x ∈ S_X7_splitSign_35, x ∈ S_X7_splitSign := by decide
theorem w_f_X7_splitSign (h : HS) (p1 : Int32) : pk (f_X7_splitSign h p1) (fun a => Fr S_X7_splitSign h a.2) := by
  unfold f_X7_splitSign
  refine pk_ob2 (w_f_X5_byteAt h p1) (fun r_1 h_1 k_1 => ?_)
  replace k_1 := Fr_trans (Fr_refl _ h) (Fr_mono fs_X5_byteAt__X7_splitSign k_1)
  refine pk_obf (fun r_2 => ?_)
  refine pk_if (fun _ => ?_) (fun _ => ?_)
  · exact pk_mono (w_f_X7_splitSign_19 h_1 p1 r_2) (fun _ k => Fr_trans k_1 (Fr_mono fs_X7_splitSign_19__X7_splitSign k))
  · refine pk_if (fun _ => ?_) (fun _ => ?_)
    · exact pk_mono (w_f_X7_splitSign_19 h_1 p1 r_2) (fun _ k => Fr_trans k_1 (Fr_mono fs_X7_splitSign_19__X7_splitSign k))
    · exact pk_mono (w_f_X7_splitSign_35 h_1 p1 r_2) (fun _ k => Fr_trans k_1 (Fr_mono fs_X7_splitSign_35__X7_splitSign k))
def S_X1_push_66 : CL := []
theorem w_f_X1_push_66 (h : HS) : pk (f_X1_push_66 h) (fun a => Fr S_X1_push_66 h a) := by
  unfold f_X1_push_66
  exact pk_some (Fr_refl _ h)
def S_X1_push_55 : CL := [(0, 6, 3), (1, 6, 2)]
theorem fm_X1_push_55_0_6_3 : (0, 6, 3) ∈ S_X1_push_55 := by decide
theorem fm_X1_push_55_1_6_2 : (1, 6, 2) ∈ S_X1_push_55 := by decide
theorem fs_X1_push_66__X1_push_55 : ∀ x ∈ S_X1_push_66, x ∈ S_X1_push_55 := by decide
theorem w_f_X1_push_55 (h : HS) (y0 : Int32) (y1 : Int32) : pk (f_X1_push_55 h y0 y1) (fun a => Fr S_X1_push_55 h a) := by
  unfold f_X1_push_55
  refine pk_chk (fun _ => ?_)
  exact pk_mono (w_f_X1_push_66 (sI (sA h 6 2 (upd (eA h 6 2) ((y1).toNatClampNeg) y0)) 6 3 ((eI h 6 3) + 1))) (fun _ k => Fr_trans (Fr_sI fm_X1_push_55_0_6_3 (Fr_sA fm_X1_push_55_1_6_2 (Fr_refl _ h))) (Fr_mono fs_X1_push_66__X1_push_55 k))
def S_X1_push : CL := [(0, 6, 3), (1, 6, 2)]
theorem fs_X1_push_66__X1_push : ∀ x ∈ S_X1_push_66, x ∈ S_X1_push := by decide
theorem fs_X1_push_55__X1_push : ∀ x ∈ S_X1_push_55, x ∈ S_X1_push := by decide
theorem w_f_X1_push (h : HS) (p1 : Int64) : pk (f_X1_push h p1) (fun a => Fr S_X1_push h a) := by
  unfold f_X1_push
  refine pk_if (fun _ => ?_) (fun _ => ?_)
  · exact pk_mono (w_f_X1_push_66 h) (fun _ k => Fr_trans (Fr_refl _ h) (Fr_mono fs_X1_push_66__X1_push k))
  · refine pk_if (fun _ => ?_) (fun _ => ?_)
    · exact pk_mono (w_f_X1_push_66 h) (fun _ k => Fr_trans (Fr_refl _ h) (Fr_mono fs_X1_push_66__X1_push k))
    · refine pk_if (fun _ => ?_) (fun _ => ?_)
      · refine pk_if (fun _ => ?_) (fun _ => ?_)
        · exact pk_mono (w_f_X1_push_55 h ((p1).toInt32) (eI h 6 3)) (fun _ k => Fr_trans (Fr_refl _ h) (Fr_mono fs_X1_push_55__X1_push k))
        · exact pk_mono (w_f_X1_push_55 h (-1000000) (eI h 6 3)) (fun _ k => Fr_trans (Fr_refl _ h) (Fr_mono fs_X1_push_55__X1_push k))
      · exact pk_mono (w_f_X1_push_55 h 1000000 (eI h 6 3)) (fun _ k => Fr_trans (Fr_refl _ h) (Fr_mono fs_X1_push_55__X1_push k))
def S_X1_pop_20 : CL := []
theorem w_f_X1_pop_20 (h : HS) : pk (f_X1_pop_20 h) (fun a => Fr S_X1_pop_20 h a.2) := by
  unfold f_X1_pop_20
  exact pk_some (Fr_refl _ h)
def S_X1_pop : CL := [(0, 6, 3)]
theorem fm_X1_pop_0_6_3 : (0, 6, 3) ∈ S_X1_pop := by decide
theorem fs_X1_pop_20__X1_pop : ∀ x ∈ S_X1_pop_20, x ∈ S_X1_pop := by decide
theorem w_f_X1_pop (h : HS) : pk (f_X1_pop h) (fun a => Fr S_X1_pop h a.2) := by
  unfold f_X1_pop
  refine pk_if (fun _ => ?_) (fun _ => ?_)
  · exact pk_mono (w_f_X1_pop_20 h) (fun _ k => Fr_trans (Fr_refl _ h) (Fr_mono fs_X1_pop_20__X1_pop k))
  · refine pk_if (fun _ => ?_) (fun _ => ?_)
    · refine pk_chk (fun _ => ?_)
      exact pk_some (Fr_sI fm_X1_pop_0_6_3 (Fr_refl _ h))
    · exact pk_mono (w_f_X1_pop_20 h) (fun _ k => Fr_trans (Fr_refl _ h) (Fr_mono fs_X1_pop_20__X1_pop k))
def S_X1_take_128 : CL := []
theorem w_f_X1_take_128 (h : HS) : pk (f_X1_take_128 h) (fun a => Fr S_X1_take_128 h a) := by
  unfold f_X1_take_128
  exact pk_some (Fr_refl _ h)
def S_X1_take_47 : CL := [(0, 6, 3), (1, 6, 2)]
theorem fs_X1_push__X1_take_47 : ∀ x ∈ S_X1_push, x ∈ S_X1_take_47 := by decide
theorem fs_X1_take_128__X1_take_47 : ∀ x ∈ S_X1_take_128, x ∈ S_X1_take_47 := by decide
theorem w_f_X1_take_47 (h : HS) (y0 : Int64) : pk (f_X1_take_47 h y0) (fun a => Fr S_X1_take_47 h a) := by
  unfold f_X1_take_47
  refine pk_ob1 (w_f_X1_push h y0) (fun h_14 k_1 => ?_)
  replace k_1 := Fr_trans (Fr_refl _ h) (Fr_mono fs_X1_push__X1_take_47 k_1)
  exact pk_mono (w_f_X1_take_128 h_14) (fun _ k => Fr_trans k_1 (Fr_mono fs_X1_take_128__X1_take_47 k))
def S_X1_take : CL := [(0, 6, 3), (1, 6, 2)]
theorem fs_X1_pop__X1_take : ∀ x ∈ S_X1_pop, x ∈ S_X1_take := by decide
theorem fs_X1_push__X1_take : ∀ x ∈ S_X1_push, x ∈ S_X1_take := by decide
theorem fs_X1_take_128__X1_take : ∀ x ∈ S_X1_take_128, x ∈ S_X1_take := by decide
theorem fs_X1_take_47__X1_take : ∀ x ∈ S_X1_take_47, x ∈ S_X1_take := by decide
theorem w_f_X1_take (h : HS) (p1 : Int32) : pk (f_X1_take h p1) (fun a => Fr S_X1_take h a) := by
  unfold f_X1_take
  refine pk_if (fun _ => ?_) (fun _ => ?_)
  · refine pk_if (fun _ => ?_) (fun _ => ?_)
    · refine pk_ob2 (w_f_X1_pop h) (fun r_3 h_3 k_1 => ?_)
      replace k_1 := Fr_trans (Fr_refl _ h) (Fr_mono fs_X1_pop__X1_take k_1)
      refine pk_if (fun _ => ?_) (fun _ => ?_)
      · refine pk_ob1 (w_f_X1_push h_3 (((1 - r_3)).toInt64)) (fun h_5 k_2 => ?_)
        replace k_2 := Fr_trans k_1 (Fr_mono fs_X1_push__X1_take k_2)
        exact pk_mono (w_f_X1_take_128 h_5) (fun _ k => Fr_trans k_2 (Fr_mono fs_X1_take_128__X1_take k))
      · refine pk_if (fun _ => ?_) (fun _ => ?_)
        · refine pk_ob1 (w_f_X1_push h_3 (((-r_3)).toInt64)) (fun h_7 k_3 => ?_)
          replace k_3 := Fr_trans k_1 (Fr_mono fs_X1_push__X1_take k_3)
          exact pk_mono (w_f_X1_take_128 h_7) (fun _ k => Fr_trans k_3 (Fr_mono fs_X1_take_128__X1_take k))
        · refine pk_ob2 (w_f_X1_pop h_3) (fun r_8 h_8 k_4 => ?_)
          replace k_4 := Fr_trans k_1 (Fr_mono fs_X1_pop__X1_take k_4)
          refine pk_obf (fun r_9 => ?_)
          refine pk_ob1 (w_f_X1_push h_8 r_9) (fun h_10 k_5 => ?_)
          replace k_5 := Fr_trans k_4 (Fr_mono fs_X1_push__X1_take k_5)
          exact pk_mono (w_f_X1_take_128 h_10) (fun _ k => Fr_trans k_5 (Fr_mono fs_X1_take_128__X1_take k))
    · refine pk_if (fun _ => ?_) (fun _ => ?_)
      · exact pk_mono (w_f_X1_take_47 h 0) (fun _ k => Fr_trans (Fr_refl _ h) (Fr_mono fs_X1_take_47__X1_take k))
      · refine pk_chk (fun _ => ?_)
        exact pk_mono (w_f_X1_take_47 h ((((eA h 6 1) (((p1 - 10000)).toNatClampNeg))).toInt64)) (fun _ k => Fr_trans (Fr_refl _ h) (Fr_mono fs_X1_take_47__X1_take k))
  · refine pk_ob1 (w_f_X1_push h ((p1).toInt64)) (fun h_13 k_6 => ?_)
    replace k_6 := Fr_trans (Fr_refl _ h) (Fr_mono fs_X1_push__X1_take k_6)
    exact pk_mono (w_f_X1_take_128 h_13) (fun _ k => Fr_trans k_6 (Fr_mono fs_X1_take_128__X1_take k))
def S_X1_without : CL := []
theorem w_f_X1_without (h : HS) (p1 : Int32) : pk (f_X1_without h p1) (fun a => Fr S_X1_without h a.2) := by
  unfold f_X1_without
  refine pk_if (fun _ => ?_) (fun _ => ?_)
  · exact pk_some (Fr_refl _ h)
  · refine pk_if (fun _ => ?_) (fun _ => ?_)
    · exact pk_some (Fr_refl _ h)
    · exact pk_some (Fr_refl _ h)
def S_X1_lookAt : CL := [(1, 6, 1)]
theorem fm_X1_lookAt_1_6_1 : (1, 6, 1) ∈ S_X1_lookAt := by decide
theorem fs_X4_ofGoose__X1_lookAt : ∀ x ∈ S_X4_ofGoose, x ∈ S_X1_lookAt := by decide
theorem w_f_X1_lookAt (h : HS) (p1 : Int32) : pk (f_X1_lookAt h p1) (fun a => Fr S_X1_lookAt h a) := by
  unfold f_X1_lookAt
  refine pk_ob2 (w_f_X4_ofGoose (sA h 6 1 (upd (eA h 6 1) 0 p1)) p1 0) (fun r_1 h_1 k_1 => ?_)
  replace k_1 := Fr_trans (Fr_sA fm_X1_lookAt_1_6_1 (Fr_refl _ h)) (Fr_mono fs_X4_ofGoose__X1_lookAt k_1)
  refine pk_ob2 (w_f_X4_ofGoose (sA h_1 6 1 (upd (eA h_1 6 1) 1 r_1)) p1 1) (fun r_2 h_2 k_2 => ?_)
  replace k_2 := Fr_trans (Fr_sA fm_X1_lookAt_1_6_1 k_1) (Fr_mono fs_X4_ofGoose__X1_lookAt k_2)
  refine pk_ob2 (w_f_X4_ofGoose (sA h_2 6 1 (upd (eA h_2 6 1) 2 r_2)) p1 2) (fun r_3 h_3 k_3 => ?_)
  replace k_3 := Fr_trans (Fr_sA fm_X1_lookAt_1_6_1 k_2) (Fr_mono fs_X4_ofGoose__X1_lookAt k_3)
  refine pk_ob2 (w_f_X4_ofGoose (sA h_3 6 1 (upd (eA h_3 6 1) 3 r_3)) p1 3) (fun r_4 h_4 k_4 => ?_)
  replace k_4 := Fr_trans (Fr_sA fm_X1_lookAt_1_6_1 k_3) (Fr_mono fs_X4_ofGoose__X1_lookAt k_4)
  exact pk_some (Fr_sA fm_X1_lookAt_1_6_1 (Fr_sA fm_X1_lookAt_1_6_1 k_4))
def S_X1_lookAtFilled : CL := [(1, 6, 1)]
theorem fm_X1_lookAtFilled_1_6_1 : (1, 6, 1) ∈ S_X1_lookAtFilled := by decide
theorem fs_X1_lookAt__X1_lookAtFilled : ∀ x ∈ S_X1_lookAt, x ∈ S_X1_lookAtFilled := by decide
theorem w_f_X1_lookAtFilled (h : HS) (p1 : Int32) (p2 : Int32) (p3 : Int32) : pk (f_X1_lookAtFilled h p1 p2 p3) (fun a => Fr S_X1_lookAtFilled h a) := by
  unfold f_X1_lookAtFilled
  refine pk_ob1 (w_f_X1_lookAt h p1) (fun h_1 k_1 => ?_)
  replace k_1 := Fr_trans (Fr_refl _ h) (Fr_mono fs_X1_lookAt__X1_lookAtFilled k_1)
  exact pk_some (Fr_sA fm_X1_lookAtFilled_1_6_1 (Fr_sA fm_X1_lookAtFilled_1_6_1 k_1))
def S_X1_lookAtMarket : CL := [(1, 6, 1)]
theorem fm_X1_lookAtMarket_1_6_1 : (1, 6, 1) ∈ S_X1_lookAtMarket := by decide
theorem fs_X4_ofMarket__X1_lookAtMarket : ∀ x ∈ S_X4_ofMarket, x ∈ S_X1_lookAtMarket := by decide
theorem w_f_X1_lookAtMarket (h : HS) (p1 : Int32) (p2 : Int32) : pk (f_X1_lookAtMarket h p1 p2) (fun a => Fr S_X1_lookAtMarket h a) := by
  unfold f_X1_lookAtMarket
  refine pk_ob2 (w_f_X4_ofMarket (sA (sA h 6 1 (upd (eA h 6 1) 5 p2)) 6 1 (upd (upd (eA h 6 1) 5 p2) 6 p1)) p1 1) (fun r_1 h_1 k_1 => ?_)
  replace k_1 := Fr_trans (Fr_sA fm_X1_lookAtMarket_1_6_1 (Fr_sA fm_X1_lookAtMarket_1_6_1 (Fr_refl _ h))) (Fr_mono fs_X4_ofMarket__X1_lookAtMarket k_1)
  refine pk_ob2 (w_f_X4_ofMarket (sA h_1 6 1 (upd (eA h_1 6 1) 7 r_1)) p1 2) (fun r_2 h_2 k_2 => ?_)
  replace k_2 := Fr_trans (Fr_sA fm_X1_lookAtMarket_1_6_1 k_1) (Fr_mono fs_X4_ofMarket__X1_lookAtMarket k_2)
  exact pk_some (Fr_sA fm_X1_lookAtMarket_1_6_1 k_2)
def S_X1_lookAtTraveller : CL := [(1, 6, 1)]
theorem fs_X1_lookAt__X1_lookAtTraveller : ∀ x ∈ S_X1_lookAt, x ∈ S_X1_lookAtTraveller := by decide
theorem fs_X4_ofGoose__X1_lookAtTraveller : ∀ x ∈ S_X4_ofGoose, x ∈ S_X1_lookAtTraveller := by decide
theorem fs_X1_lookAtMarket__X1_lookAtTraveller : ∀ x ∈ S_X1_lookAtMarket, x ∈ S_X1_lookAtTraveller := by decide
theorem w_f_X1_lookAtTraveller (h : HS) (p1 : Int32) : pk (f_X1_lookAtTraveller h p1) (fun a => Fr S_X1_lookAtTraveller h a) := by
  unfold f_X1_lookAtTraveller
  refine pk_ob1 (w_f_X1_lookAt h p1) (fun h_1 k_1 => ?_)
  replace k_1 := Fr_trans (Fr_refl _ h) (Fr_mono fs_X1_lookAt__X1_lookAtTraveller k_1)
  refine pk_ob2 (w_f_X4_ofGoose h_1 p1 5) (fun r_2 h_2 k_2 => ?_)
  replace k_2 := Fr_trans k_1 (Fr_mono fs_X4_ofGoose__X1_lookAtTraveller k_2)
  refine pk_ob2 (w_f_X4_ofGoose h_2 p1 6) (fun r_3 h_3 k_3 => ?_)
  replace k_3 := Fr_trans k_2 (Fr_mono fs_X4_ofGoose__X1_lookAtTraveller k_3)
  refine pk_ob1 (w_f_X1_lookAtMarket h_3 r_2 r_3) (fun h_4 k_4 => ?_)
  replace k_4 := Fr_trans k_3 (Fr_mono fs_X1_lookAtMarket__X1_lookAtTraveller k_4)
  exact pk_some k_4
def S_X6_clear_0_12 : CL := [(1, 9, 3), (1, 9, 4)]
theorem fm_X6_clear_0_12_1_9_4 : (1, 9, 4) ∈ S_X6_clear_0_12 := by decide
theorem fm_X6_clear_0_12_1_9_3 : (1, 9, 3) ∈ S_X6_clear_0_12 := by decide
theorem w_f_X6_clear_0_12  : ∀ (n : Nat) (h : HS) (x1 : Int32), pk (f_X6_clear_0_12  n h x1) (fun a => Fr S_X6_clear_0_12 h a) := by
  intro n
  induction n with
  | zero => intro h x1; exact pk_none
  | succ n ih =>
    intro h x1
    rw [f_X6_clear_0_12_s]
    refine pk_if (fun _ => ?_) (fun _ => ?_)
    · exact pk_some (Fr_refl _ h)
    · refine pk_chk (fun _ => ?_)
      refine pk_chk (fun _ => ?_)
      exact pk_mono (ih (sA (sA h 9 3 (upd (eA h 9 3) ((x1).toNatClampNeg) (-1))) 9 4 (upd (eA h 9 4) ((x1).toNatClampNeg) (-1))) (x1 + 1)) (fun _ k => Fr_trans (Fr_sA fm_X6_clear_0_12_1_9_4 (Fr_sA fm_X6_clear_0_12_1_9_3 (Fr_refl _ h))) k)
def S_X6_clear_0 : CL := [(0, 9, 1), (0, 9, 5), (1, 9, 3), (1, 9, 4)]
theorem fm_X6_clear_0_0_9_5 : (0, 9, 5) ∈ S_X6_clear_0 := by decide
theorem fm_X6_clear_0_0_9_1 : (0, 9, 1) ∈ S_X6_clear_0 := by decide
theorem fs_X6_clear_0_12__X6_clear_0 : ∀ x ∈ S_X6_clear_0_12, x ∈ S_X6_clear_0 := by decide
theorem w_f_X6_clear_0 (h : HS) : pk (f_X6_clear_0 h) (fun a => Fr S_X6_clear_0 h a) := by
  unfold f_X6_clear_0
  exact pk_mono (w_f_X6_clear_0_12 8589934592 (sI (sI h 9 1 0) 9 5 0) 0) (fun _ k => Fr_trans (Fr_sI fm_X6_clear_0_0_9_5 (Fr_sI fm_X6_clear_0_0_9_1 (Fr_refl _ h))) (Fr_mono fs_X6_clear_0_12__X6_clear_0 k))
def S_X6_hasLaw_0_24 : CL := []
theorem w_f_X6_hasLaw_0_24 (h : HS) (y0 : Int32) : pk (f_X6_hasLaw_0_24 h y0) (fun a => Fr S_X6_hasLaw_0_24 h a.2) := by
  unfold f_X6_hasLaw_0_24
  refine pk_chk (fun _ => ?_)
  exact pk_some (Fr_refl _ h)
def S_X6_hasLaw_0_23 : CL := []
theorem fs_X6_hasLaw_0_24__X6_hasLaw_0_23 : ∀ x ∈ S_X6_hasLaw_0_24, x ∈ S_X6_hasLaw_0_23 := by decide
theorem w_f_X6_hasLaw_0_23 (h : HS) : pk (f_X6_hasLaw_0_23 h) (fun a => Fr S_X6_hasLaw_0_23 h a.2) := by
  unfold f_X6_hasLaw_0_23
  exact pk_mono (w_f_X6_hasLaw_0_24 h 0) (fun _ k => Fr_trans (Fr_refl _ h) (Fr_mono fs_X6_hasLaw_0_24__X6_hasLaw_0_23 k))
def S_X6_hasLaw_0 : CL := []
theorem fs_X6_hasLaw_0_23__X6_hasLaw_0 : ∀ x ∈ S_X6_hasLaw_0_23, x ∈ S_X6_hasLaw_0 := by decide
theorem fs_X6_hasLaw_0_24__X6_hasLaw_0 : ∀ x ∈ S_X6_hasLaw_0_24, x ∈ S_X6_hasLaw_0 := by decide
theorem w_f_X6_hasLaw_0 (h : HS) (p1 : Int32) : pk (f_X6_hasLaw_0 h p1) (fun a => Fr S_X6_hasLaw_0 h a.2) := by
  unfold f_X6_hasLaw_0
  refine pk_if (fun _ => ?_) (fun _ => ?_)
  · exact pk_mono (w_f_X6_hasLaw_0_23 h) (fun _ k => Fr_trans (Fr_refl _ h) (Fr_mono fs_X6_hasLaw_0_23__X6_hasLaw_0 k))
  · refine pk_if (fun _ => ?_) (fun _ => ?_)
    · exact pk_mono (w_f_X6_hasLaw_0_23 h) (fun _ k => Fr_trans (Fr_refl _ h) (Fr_mono fs_X6_hasLaw_0_23__X6_hasLaw_0 k))
    · refine pk_chk (fun _ => ?_)
      refine pk_if (fun _ => ?_) (fun _ => ?_)
      · exact pk_mono (w_f_X6_hasLaw_0_23 h) (fun _ k => Fr_trans (Fr_refl _ h) (Fr_mono fs_X6_hasLaw_0_23__X6_hasLaw_0 k))
      · exact pk_mono (w_f_X6_hasLaw_0_24 h 1) (fun _ k => Fr_trans (Fr_refl _ h) (Fr_mono fs_X6_hasLaw_0_24__X6_hasLaw_0 k))
def S_X6_beginLaw_0_19 : CL := []
theorem w_f_X6_beginLaw_0_19 (h : HS) : pk (f_X6_beginLaw_0_19 h) (fun a => Fr S_X6_beginLaw_0_19 h a) := by
  unfold f_X6_beginLaw_0_19
  exact pk_some (Fr_refl _ h)
def S_X6_beginLaw_0 : CL := [(1, 9, 3)]
theorem fm_X6_beginLaw_0_1_9_3 : (1, 9, 3) ∈ S_X6_beginLaw_0 := by decide
theorem fs_X6_beginLaw_0_19__X6_beginLaw_0 : ∀ x ∈ S_X6_beginLaw_0_19, x ∈ S_X6_beginLaw_0 := by decide
theorem w_f_X6_beginLaw_0 (h : HS) (p1 : Int32) : pk (f_X6_beginLaw_0 h p1) (fun a => Fr S_X6_beginLaw_0 h a) := by
  unfold f_X6_beginLaw_0
  refine pk_if (fun _ => ?_) (fun _ => ?_)
  · exact pk_mono (w_f_X6_beginLaw_0_19 h) (fun _ k => Fr_trans (Fr_refl _ h) (Fr_mono fs_X6_beginLaw_0_19__X6_beginLaw_0 k))
  · refine pk_if (fun _ => ?_) (fun _ => ?_)
    · exact pk_mono (w_f_X6_beginLaw_0_19 h) (fun _ k => Fr_trans (Fr_refl _ h) (Fr_mono fs_X6_beginLaw_0_19__X6_beginLaw_0 k))
    · refine pk_chk (fun _ => ?_)
      exact pk_mono (w_f_X6_beginLaw_0_19 (sA h 9 3 (upd (eA h 9 3) ((p1).toNatClampNeg) (eI h 9 5)))) (fun _ k => Fr_trans (Fr_sA fm_X6_beginLaw_0_1_9_3 (Fr_refl _ h)) (Fr_mono fs_X6_beginLaw_0_19__X6_beginLaw_0 k))
def S_X6_closeLaw_0_19 : CL := []
theorem w_f_X6_closeLaw_0_19 (h : HS) : pk (f_X6_closeLaw_0_19 h) (fun a => Fr S_X6_closeLaw_0_19 h a) := by
  unfold f_X6_closeLaw_0_19
  exact pk_some (Fr_refl _ h)
def S_X6_closeLaw_0 : CL := [(1, 9, 4)]
theorem fm_X6_closeLaw_0_1_9_4 : (1, 9, 4) ∈ S_X6_closeLaw_0 := by decide
theorem fs_X6_closeLaw_0_19__X6_closeLaw_0 : ∀ x ∈ S_X6_closeLaw_0_19, x ∈ S_X6_closeLaw_0 := by decide
theorem w_f_X6_closeLaw_0 (h : HS) (p1 : Int32) : pk (f_X6_closeLaw_0 h p1) (fun a => Fr S_X6_closeLaw_0 h a) := by
  unfold f_X6_closeLaw_0
  refine pk_if (fun _ => ?_) (fun _ => ?_)
  · exact pk_mono (w_f_X6_closeLaw_0_19 h) (fun _ k => Fr_trans (Fr_refl _ h) (Fr_mono fs_X6_closeLaw_0_19__X6_closeLaw_0 k))
  · refine pk_if (fun _ => ?_) (fun _ => ?_)
    · exact pk_mono (w_f_X6_closeLaw_0_19 h) (fun _ k => Fr_trans (Fr_refl _ h) (Fr_mono fs_X6_closeLaw_0_19__X6_closeLaw_0 k))
    · refine pk_chk (fun _ => ?_)
      exact pk_mono (w_f_X6_closeLaw_0_19 (sA h 9 4 (upd (eA h 9 4) ((p1).toNatClampNeg) (eI h 9 5)))) (fun _ k => Fr_trans (Fr_sA fm_X6_closeLaw_0_1_9_4 (Fr_refl _ h)) (Fr_mono fs_X6_closeLaw_0_19__X6_closeLaw_0 k))
def S_X6_firstStep_0_19 : CL := []
theorem w_f_X6_firstStep_0_19 (h : HS) (y0 : Int32) : pk (f_X6_firstStep_0_19 h y0) (fun a => Fr S_X6_firstStep_0_19 h a.2) := by
  unfold f_X6_firstStep_0_19
  exact pk_some (Fr_refl _ h)
def S_X6_firstStep_0_18 : CL := []
theorem fs_X6_firstStep_0_19__X6_firstStep_0_18 : ∀ x ∈ S_X6_firstStep_0_19, x ∈ S_X6_firstStep_0_18 := by decide
theorem w_f_X6_firstStep_0_18 (h : HS) : pk (f_X6_firstStep_0_18 h) (fun a => Fr S_X6_firstStep_0_18 h a.2) := by
  unfold f_X6_firstStep_0_18
  exact pk_mono (w_f_X6_firstStep_0_19 h 0) (fun _ k => Fr_trans (Fr_refl _ h) (Fr_mono fs_X6_firstStep_0_19__X6_firstStep_0_18 k))
def S_X6_firstStep_0 : CL := []
theorem fs_X6_firstStep_0_18__X6_firstStep_0 : ∀ x ∈ S_X6_firstStep_0_18, x ∈ S_X6_firstStep_0 := by decide
theorem fs_X6_firstStep_0_19__X6_firstStep_0 : ∀ x ∈ S_X6_firstStep_0_19, x ∈ S_X6_firstStep_0 := by decide
theorem w_f_X6_firstStep_0 (h : HS) (p1 : Int32) : pk (f_X6_firstStep_0 h p1) (fun a => Fr S_X6_firstStep_0 h a.2) := by
  unfold f_X6_firstStep_0
  refine pk_if (fun _ => ?_) (fun _ => ?_)
  · exact pk_mono (w_f_X6_firstStep_0_18 h) (fun _ k => Fr_trans (Fr_refl _ h) (Fr_mono fs_X6_firstStep_0_18__X6_firstStep_0 k))
  · refine pk_if (fun _ => ?_) (fun _ => ?_)
    · exact pk_mono (w_f_X6_firstStep_0_18 h) (fun _ k => Fr_trans (Fr_refl _ h) (Fr_mono fs_X6_firstStep_0_18__X6_firstStep_0 k))
    · refine pk_chk (fun _ => ?_)
      exact pk_mono (w_f_X6_firstStep_0_19 h ((eA h 9 3) ((p1).toNatClampNeg))) (fun _ k => Fr_trans (Fr_refl _ h) (Fr_mono fs_X6_firstStep_0_19__X6_firstStep_0 k))
def S_X6_stepsEnd_0_19 : CL := []
theorem w_f_X6_stepsEnd_0_19 (h : HS) (y0 : Int32) : pk (f_X6_stepsEnd_0_19 h y0) (fun a => Fr S_X6_stepsEnd_0_19 h a.2) := by
  unfold f_X6_stepsEnd_0_19
  exact pk_some (Fr_refl _ h)
def S_X6_stepsEnd_0_18 : CL := []
theorem fs_X6_stepsEnd_0_19__X6_stepsEnd_0_18 : ∀ x ∈ S_X6_stepsEnd_0_19, x ∈ S_X6_stepsEnd_0_18 := by decide
theorem w_f_X6_stepsEnd_0_18 (h : HS) : pk (f_X6_stepsEnd_0_18 h) (fun a => Fr S_X6_stepsEnd_0_18 h a.2) := by
  unfold f_X6_stepsEnd_0_18
  exact pk_mono (w_f_X6_stepsEnd_0_19 h 0) (fun _ k => Fr_trans (Fr_refl _ h) (Fr_mono fs_X6_stepsEnd_0_19__X6_stepsEnd_0_18 k))
