def S_X9_copies_2 : CL := [(1, 0, 0), (1, 0, 1)]
theorem w_f_X9_copies_40 (k2 : HS → Int32 → Int32 → Option HS) (hk_k2 : ∀ (h : HS) (x0 : Int32) (x1 : Int32), pk (k2 h x0 x1) (fun a => Fr S_X9_copies_2 h a)) (h : HS) (x1 : Int32) (x2 : Int32) : pk (f_X9_copies_40 k2 h x1 x2) (fun a => Fr S_X9_copies_2 h a) := by
  unfold f_X9_copies_40
  exact pk_mono (hk_k2 h x1 (x2 + 1)) (fun _ k => Fr_trans (Fr_refl _ h) k)
theorem fm_X9_copies_2_1_0_0 : (1, 0, 0) ∈ S_X9_copies_2 := by decide
theorem fm_X9_copies_2_1_0_1 : (1, 0, 1) ∈ S_X9_copies_2 := by decide
theorem w_f_X9_copies_2  : ∀ (n : Nat) (h : HS) (x1 : Int32) (x2 : Int32), pk (f_X9_copies_2  n h x1 x2) (fun a => Fr S_X9_copies_2 h a) := by
  intro n
  induction n with
  | zero => intro h x1 x2; exact pk_none
  | succ n ih =>
    intro h x1 x2
    rw [f_X9_copies_2_s]
    refine pk_if (fun _ => ?_) (fun _ => ?_)
    · exact pk_some (Fr_refl _ h)
    · refine pk_if (fun _ => ?_) (fun _ => ?_)
      · refine pk_chk (fun _ => ?_)
        refine pk_chk (fun _ => ?_)
        exact pk_mono (w_f_X9_copies_40 (f_X9_copies_2 n) ih (sA h 0 0 (upd (eA h 0 0) ((x2).toNatClampNeg) ((eA h 0 1) ((x2).toNatClampNeg)))) x1 x2) (fun _ k => Fr_trans (Fr_sA fm_X9_copies_2_1_0_0 (Fr_refl _ h)) k)
      · refine pk_chk (fun _ => ?_)
        refine pk_chk (fun _ => ?_)
        exact pk_mono (w_f_X9_copies_40 (f_X9_copies_2 n) ih (sA h 0 1 (upd (eA h 0 1) ((x2).toNatClampNeg) ((eA h 0 0) ((x2).toNatClampNeg)))) x1 x2) (fun _ k => Fr_trans (Fr_sA fm_X9_copies_2_1_0_1 (Fr_refl _ h)) k)
def S_X9_copies : CL := [(1, 0, 0), (1, 0, 1)]
theorem fs_X9_copies_2__X9_copies : ∀ x ∈ S_X9_copies_2, x ∈ S_X9_copies := by decide
theorem w_f_X9_copies (h : HS) (p1 : Int32) : pk (f_X9_copies h p1) (fun a => Fr S_X9_copies h a) := by
  unfold f_X9_copies
  exact pk_mono (w_f_X9_copies_2 8589934592 h p1 0) (fun _ k => Fr_trans (Fr_refl _ h) (Fr_mono fs_X9_copies_2__X9_copies k))
def S_X9_isMarket : CL := []
theorem w_f_X9_isMarket (h : HS) (p1 : Int32) : pk (f_X9_isMarket h p1) (fun a => Fr S_X9_isMarket h a.2) := by
  unfold f_X9_isMarket
  refine pk_obf (fun r_1 => ?_)
  refine pk_chk (fun _ => ?_)
  exact pk_some (Fr_refl _ h)
def S_X9_isGoose : CL := []
theorem w_f_X9_isGoose (h : HS) (p1 : Int32) : pk (f_X9_isGoose h p1) (fun a => Fr S_X9_isGoose h a.2) := by
  unfold f_X9_isGoose
  refine pk_obf (fun r_1 => ?_)
  refine pk_chk (fun _ => ?_)
  exact pk_some (Fr_refl _ h)
def S_X9_ofGoose : CL := []
theorem w_f_X9_ofGoose (h : HS) (p1 : Int32) (p2 : Int32) : pk (f_X9_ofGoose h p1 p2) (fun a => Fr S_X9_ofGoose h a.2) := by
  unfold f_X9_ofGoose
  refine pk_chk (fun _ => ?_)
  exact pk_some (Fr_refl _ h)
def S_X9_puts : CL := [(1, 0, 0)]
theorem fm_X9_puts_1_0_0 : (1, 0, 0) ∈ S_X9_puts := by decide
theorem w_f_X9_puts (h : HS) (p1 : Int32) (p2 : Int32) (p3 : Int32) : pk (f_X9_puts h p1 p2 p3) (fun a => Fr S_X9_puts h a) := by
  unfold f_X9_puts
  refine pk_chk (fun _ => ?_)
  exact pk_some (Fr_sA fm_X9_puts_1_0_0 (Fr_refl _ h))
def S_X9_market_40 : CL := []
theorem w_f_X9_market_40 (h : HS) : pk (f_X9_market_40 h) (fun a => Fr S_X9_market_40 h a.2) := by
  unfold f_X9_market_40
  exact pk_some (Fr_refl _ h)
def S_X9_market : CL := [(1, 0, 0)]
theorem fm_X9_market_1_0_0 : (1, 0, 0) ∈ S_X9_market := by decide
theorem fs_X9_market_40__X9_market : ∀ x ∈ S_X9_market_40, x ∈ S_X9_market := by decide
theorem w_f_X9_market (h : HS) (p1 : Int32) (p2 : Int32) (p3 : Int32) : pk (f_X9_market h p1 p2 p3) (fun a => Fr S_X9_market h a.2) := by
  unfold f_X9_market
  refine pk_obf (fun r_1 => ?_)
  refine pk_if (fun _ => ?_) (fun _ => ?_)
  · exact pk_mono (w_f_X9_market_40 h) (fun _ k => Fr_trans (Fr_refl _ h) (Fr_mono fs_X9_market_40__X9_market k))
  · refine pk_obf (fun r_3 => ?_)
    refine pk_if (fun _ => ?_) (fun _ => ?_)
    · exact pk_mono (w_f_X9_market_40 h) (fun _ k => Fr_trans (Fr_refl _ h) (Fr_mono fs_X9_market_40__X9_market k))
    · refine pk_obf (fun r_5 => ?_)
      refine pk_if (fun _ => ?_) (fun _ => ?_)
      · exact pk_mono (w_f_X9_market_40 h) (fun _ k => Fr_trans (Fr_refl _ h) (Fr_mono fs_X9_market_40__X9_market k))
      · refine pk_if (fun _ => ?_) (fun _ => ?_)
        · exact pk_mono (w_f_X9_market_40 h) (fun _ k => Fr_trans (Fr_refl _ h) (Fr_mono fs_X9_market_40__X9_market k))
        · refine pk_chk (fun _ => ?_)
          refine pk_chk (fun _ => ?_)
          refine pk_chk (fun _ => ?_)
          exact pk_some (Fr_sA fm_X9_market_1_0_0 (Fr_sA fm_X9_market_1_0_0 (Fr_sA fm_X9_market_1_0_0 (Fr_sA fm_X9_market_1_0_0 (Fr_refl _ h)))))
def S_X9_tellsGoose : CL := [(1, 0, 0)]
theorem fm_X9_tellsGoose_1_0_0 : (1, 0, 0) ∈ S_X9_tellsGoose := by decide
theorem w_f_X9_tellsGoose (h : HS) (p1 : Int32) (p2 : Int32) (p3 : Int32) (p4 : Int32) : pk (f_X9_tellsGoose h p1 p2 p3 p4) (fun a => Fr S_X9_tellsGoose h a) := by
  unfold f_X9_tellsGoose
  refine pk_chk (fun _ => ?_)
  refine pk_chk (fun _ => ?_)
  refine pk_chk (fun _ => ?_)
  refine pk_chk (fun _ => ?_)
  refine pk_chk (fun _ => ?_)
  refine pk_chk (fun _ => ?_)
  refine pk_chk (fun _ => ?_)
  refine pk_chk (fun _ => ?_)
  refine pk_chk (fun _ => ?_)
  exact pk_some (Fr_sA fm_X9_tellsGoose_1_0_0 (Fr_sA fm_X9_tellsGoose_1_0_0 (Fr_sA fm_X9_tellsGoose_1_0_0 (Fr_sA fm_X9_tellsGoose_1_0_0 (Fr_sA fm_X9_tellsGoose_1_0_0 (Fr_sA fm_X9_tellsGoose_1_0_0 (Fr_sA fm_X9_tellsGoose_1_0_0 (Fr_sA fm_X9_tellsGoose_1_0_0 (Fr_sA fm_X9_tellsGoose_1_0_0 (Fr_refl _ h))))))))))
def S_X9_goose_31 : CL := []
theorem w_f_X9_goose_31 (h : HS) : pk (f_X9_goose_31 h) (fun a => Fr S_X9_goose_31 h a.2) := by
  unfold f_X9_goose_31
  exact pk_some (Fr_refl _ h)
def S_X9_goose_49 : CL := [(1, 0, 0)]
theorem fm_X9_goose_49_1_0_0 : (1, 0, 0) ∈ S_X9_goose_49 := by decide
theorem fs_X9_tellsGoose__X9_goose_49 : ∀ x ∈ S_X9_tellsGoose, x ∈ S_X9_goose_49 := by decide
theorem w_f_X9_goose_49  : ∀ (n : Nat) (h : HS) (x1 : Int32) (x2 : Int32) (x3 : Int32), pk (f_X9_goose_49  n h x1 x2 x3) (fun a => Fr S_X9_goose_49 h a.2) := by
  intro n
  induction n with
  | zero => intro h x1 x2 x3; exact pk_none
  | succ n ih =>
    intro h x1 x2 x3
    rw [f_X9_goose_49_s]
    refine pk_if (fun _ => ?_) (fun _ => ?_)
    · exact pk_some (Fr_sA fm_X9_goose_49_1_0_0 (Fr_refl _ h))
    · refine pk_ob1 (w_f_X9_tellsGoose h (130 + (93 * x3)) ((eA h 0 0) 1) x1 x2) (fun h_8 k_1 => ?_)
      replace k_1 := Fr_trans (Fr_refl _ h) (Fr_mono fs_X9_tellsGoose__X9_goose_49 k_1)
      exact pk_mono (ih h_8 x1 x2 (x3 + 1)) (fun _ k => Fr_trans k_1 k)
def S_X9_goose : CL := [(1, 0, 0)]
theorem fs_X9_goose_31__X9_goose : ∀ x ∈ S_X9_goose_31, x ∈ S_X9_goose := by decide
theorem fs_X9_tellsGoose__X9_goose : ∀ x ∈ S_X9_tellsGoose, x ∈ S_X9_goose := by decide
theorem fs_X9_goose_49__X9_goose : ∀ x ∈ S_X9_goose_49, x ∈ S_X9_goose := by decide
theorem w_f_X9_goose (h : HS) (p1 : Int32) (p2 : Int32) : pk (f_X9_goose h p1 p2) (fun a => Fr S_X9_goose h a.2) := by
  unfold f_X9_goose
  refine pk_obf (fun r_1 => ?_)
  refine pk_if (fun _ => ?_) (fun _ => ?_)
  · exact pk_mono (w_f_X9_goose_31 h) (fun _ k => Fr_trans (Fr_refl _ h) (Fr_mono fs_X9_goose_31__X9_goose k))
  · refine pk_obf (fun r_3 => ?_)
    refine pk_if (fun _ => ?_) (fun _ => ?_)
    · exact pk_mono (w_f_X9_goose_31 h) (fun _ k => Fr_trans (Fr_refl _ h) (Fr_mono fs_X9_goose_31__X9_goose k))
    · refine pk_if (fun _ => ?_) (fun _ => ?_)
      · exact pk_mono (w_f_X9_goose_31 h) (fun _ k => Fr_trans (Fr_refl _ h) (Fr_mono fs_X9_goose_31__X9_goose k))
      · refine pk_ob1 (w_f_X9_tellsGoose h 30 ((eA h 0 0) 1) p1 p2) (fun h_6 k_1 => ?_)
        replace k_1 := Fr_trans (Fr_refl _ h) (Fr_mono fs_X9_tellsGoose__X9_goose k_1)
        exact pk_mono (w_f_X9_goose_49 8589934592 h_6 p1 p2 0) (fun _ k => Fr_trans k_1 (Fr_mono fs_X9_goose_49__X9_goose k))
def S_X9_store_21 : CL := []
theorem w_f_X9_store_21 (h : HS) : pk (f_X9_store_21 h) (fun a => Fr S_X9_store_21 h a.2) := by
  unfold f_X9_store_21
  exact pk_some (Fr_refl _ h)
def S_X9_store : CL := [(1, 0, 0)]
theorem fm_X9_store_1_0_0 : (1, 0, 0) ∈ S_X9_store := by decide
theorem fs_X9_store_21__X9_store : ∀ x ∈ S_X9_store_21, x ∈ S_X9_store := by decide
theorem w_f_X9_store (h : HS) (p1 : Int32) (p2 : Int32) : pk (f_X9_store h p1 p2) (fun a => Fr S_X9_store h a.2) := by
  unfold f_X9_store
  refine pk_obf (fun r_1 => ?_)
  refine pk_if (fun _ => ?_) (fun _ => ?_)
  · exact pk_mono (w_f_X9_store_21 h) (fun _ k => Fr_trans (Fr_refl _ h) (Fr_mono fs_X9_store_21__X9_store k))
  · refine pk_obf (fun r_3 => ?_)
    refine pk_if (fun _ => ?_) (fun _ => ?_)
    · exact pk_mono (w_f_X9_store_21 h) (fun _ k => Fr_trans (Fr_refl _ h) (Fr_mono fs_X9_store_21__X9_store k))
    · exact pk_some (Fr_sA fm_X9_store_1_0_0 (Fr_sA fm_X9_store_1_0_0 (Fr_refl _ h)))
def S_X9_seed : CL := [(1, 0, 0)]
theorem fm_X9_seed_1_0_0 : (1, 0, 0) ∈ S_X9_seed := by decide
theorem w_f_X9_seed (h : HS) (p1 : Int32) : pk (f_X9_seed h p1) (fun a => Fr S_X9_seed h a.2) := by
  unfold f_X9_seed
  refine pk_obf (fun r_1 => ?_)
  refine pk_if (fun _ => ?_) (fun _ => ?_)
  · exact pk_some (Fr_refl _ h)
  · exact pk_some (Fr_sA fm_X9_seed_1_0_0 (Fr_refl _ h))
def S_X9_keepsStep_53 : CL := [(1, 0, 0)]
theorem fm_X9_keepsStep_53_1_0_0 : (1, 0, 0) ∈ S_X9_keepsStep_53 := by decide
theorem w_f_X9_keepsStep_53  : ∀ (n : Nat) (h : HS) (x1 : Int32), pk (f_X9_keepsStep_53  n h x1) (fun a => Fr S_X9_keepsStep_53 h a) := by
  intro n
  induction n with
  | zero => intro h x1; exact pk_none
  | succ n ih =>
    intro h x1
    rw [f_X9_keepsStep_53_s]
    refine pk_if (fun _ => ?_) (fun _ => ?_)
    · exact pk_some (Fr_sA fm_X9_keepsStep_53_1_0_0 (Fr_refl _ h))
    · refine pk_chk (fun _ => ?_)
      refine pk_chk (fun _ => ?_)
      exact pk_mono (ih (sA h 0 0 (upd (eA h 0 0) ((((130 + (93 * ((eA h 0 0) 5))) + x1)).toNatClampNeg) ((eA h 0 0) (((30 + x1)).toNatClampNeg)))) (x1 + 1)) (fun _ k => Fr_trans (Fr_sA fm_X9_keepsStep_53_1_0_0 (Fr_refl _ h)) k)
def S_X9_keepsStep_51 : CL := [(1, 0, 0)]
theorem fs_X9_keepsStep_53__X9_keepsStep_51 : ∀ x ∈ S_X9_keepsStep_53, x ∈ S_X9_keepsStep_51 := by decide
theorem w_f_X9_keepsStep_51 (h : HS) : pk (f_X9_keepsStep_51 h) (fun a => Fr S_X9_keepsStep_51 h a) := by
  unfold f_X9_keepsStep_51
  exact pk_mono (w_f_X9_keepsStep_53 8589934592 h 0) (fun _ k => Fr_trans (Fr_refl _ h) (Fr_mono fs_X9_keepsStep_53__X9_keepsStep_51 k))
def S_X9_keepsStep_15 : CL := [(1, 0, 0)]
theorem fm_X9_keepsStep_15_1_0_0 : (1, 0, 0) ∈ S_X9_keepsStep_15 := by decide
theorem fs_X9_keepsStep_51__X9_keepsStep_15 : ∀ x ∈ S_X9_keepsStep_51, x ∈ S_X9_keepsStep_15 := by decide
theorem w_f_X9_keepsStep_15  : ∀ (n : Nat) (h : HS) (x1 : Int32), pk (f_X9_keepsStep_15  n h x1) (fun a => Fr S_X9_keepsStep_15 h a) := by
  intro n
  induction n with
  | zero => intro h x1; exact pk_none
  | succ n ih =>
    intro h x1
    rw [f_X9_keepsStep_15_s]
    refine pk_if (fun _ => ?_) (fun _ => ?_)
    · exact pk_mono (w_f_X9_keepsStep_51 (sA h 0 0 (upd (eA h 0 0) 5 19))) (fun _ k => Fr_trans (Fr_sA fm_X9_keepsStep_15_1_0_0 (Fr_refl _ h)) (Fr_mono fs_X9_keepsStep_51__X9_keepsStep_15 k))
    · refine pk_chk (fun _ => ?_)
      refine pk_chk (fun _ => ?_)
      exact pk_mono (ih (sA h 0 0 (upd (eA h 0 0) ((x1).toNatClampNeg) ((eA h 0 0) (((x1 + 93)).toNatClampNeg)))) (x1 + 1)) (fun _ k => Fr_trans (Fr_sA fm_X9_keepsStep_15_1_0_0 (Fr_refl _ h)) k)
def S_X9_keepsStep : CL := [(1, 0, 0)]
theorem fs_X9_keepsStep_15__X9_keepsStep : ∀ x ∈ S_X9_keepsStep_15, x ∈ S_X9_keepsStep := by decide
theorem fs_X9_keepsStep_51__X9_keepsStep : ∀ x ∈ S_X9_keepsStep_51, x ∈ S_X9_keepsStep := by decide
theorem w_f_X9_keepsStep (h : HS) : pk (f_X9_keepsStep h) (fun a => Fr S_X9_keepsStep h a) := by
  unfold f_X9_keepsStep
  refine pk_if (fun _ => ?_) (fun _ => ?_)
  · exact pk_mono (w_f_X9_keepsStep_15 8589934592 h 130) (fun _ k => Fr_trans (Fr_refl _ h) (Fr_mono fs_X9_keepsStep_15__X9_keepsStep k))
  · exact pk_mono (w_f_X9_keepsStep_51 h) (fun _ k => Fr_trans (Fr_refl _ h) (Fr_mono fs_X9_keepsStep_51__X9_keepsStep k))
def S_X9_undo_23 : CL := [(1, 0, 0)]
theorem fm_X9_undo_23_1_0_0 : (1, 0, 0) ∈ S_X9_undo_23 := by decide
theorem w_f_X9_undo_23  : ∀ (n : Nat) (h : HS) (x1 : Int32), pk (f_X9_undo_23  n h x1) (fun a => Fr S_X9_undo_23 h a.2) := by
  intro n
  induction n with
  | zero => intro h x1; exact pk_none
  | succ n ih =>
    intro h x1
    rw [f_X9_undo_23_s]
    refine pk_if (fun _ => ?_) (fun _ => ?_)
    · exact pk_some (Fr_refl _ h)
    · refine pk_chk (fun _ => ?_)
      refine pk_chk (fun _ => ?_)
      exact pk_mono (ih (sA h 0 0 (upd (eA h 0 0) (((30 + x1)).toNatClampNeg) ((eA h 0 0) ((((130 + (93 * ((eA h 0 0) 5))) + x1)).toNatClampNeg)))) (x1 + 1)) (fun _ k => Fr_trans (Fr_sA fm_X9_undo_23_1_0_0 (Fr_refl _ h)) k)
def S_X9_undo : CL := [(1, 0, 0)]
theorem fm_X9_undo_1_0_0 : (1, 0, 0) ∈ S_X9_undo := by decide
theorem fs_X9_undo_23__X9_undo : ∀ x ∈ S_X9_undo_23, x ∈ S_X9_undo := by decide
theorem w_f_X9_undo (h : HS) : pk (f_X9_undo h) (fun a => Fr S_X9_undo h a.2) := by
  unfold f_X9_undo
  refine pk_if (fun _ => ?_) (fun _ => ?_)
  · exact pk_some (Fr_refl _ h)
  · exact pk_mono (w_f_X9_undo_23 8589934592 (sA h 0 0 (upd (eA h 0 0) 5 (((eA h 0 0) 5) - 1))) 0) (fun _ k => Fr_trans (Fr_sA fm_X9_undo_1_0_0 (Fr_refl _ h)) (Fr_mono fs_X9_undo_23__X9_undo k))
def S_X9_isHome_22 : CL := []
theorem w_f_X9_isHome_22 (h : HS) (y0 : Int32) : pk (f_X9_isHome_22 h y0) (fun a => Fr S_X9_isHome_22 h a.2) := by
  unfold f_X9_isHome_22
  refine pk_chk (fun _ => ?_)
  exact pk_some (Fr_refl _ h)
def S_X9_isHome_21 : CL := []
theorem fs_X9_isHome_22__X9_isHome_21 : ∀ x ∈ S_X9_isHome_22, x ∈ S_X9_isHome_21 := by decide
theorem w_f_X9_isHome_21 (h : HS) : pk (f_X9_isHome_21 h) (fun a => Fr S_X9_isHome_21 h a.2) := by
  unfold f_X9_isHome_21
  exact pk_mono (w_f_X9_isHome_22 h 0) (fun _ k => Fr_trans (Fr_refl _ h) (Fr_mono fs_X9_isHome_22__X9_isHome_21 k))
def S_X9_isHome : CL := []
theorem fs_X9_isGoose__X9_isHome : ∀ x ∈ S_X9_isGoose, x ∈ S_X9_isHome := by decide
theorem fs_X9_isHome_21__X9_isHome : ∀ x ∈ S_X9_isHome_21, x ∈ S_X9_isHome := by decide
theorem fs_X9_ofGoose__X9_isHome : ∀ x ∈ S_X9_ofGoose, x ∈ S_X9_isHome := by decide
theorem fs_X9_isHome_22__X9_isHome : ∀ x ∈ S_X9_isHome_22, x ∈ S_X9_isHome := by decide
theorem w_f_X9_isHome (h : HS) (p1 : Int32) : pk (f_X9_isHome h p1) (fun a => Fr S_X9_isHome h a.2) := by
  unfold f_X9_isHome
  refine pk_ob2 (w_f_X9_isGoose h p1) (fun r_1 h_1 k_1 => ?_)
  replace k_1 := Fr_trans (Fr_refl _ h) (Fr_mono fs_X9_isGoose__X9_isHome k_1)
  refine pk_if (fun _ => ?_) (fun _ => ?_)
  · exact pk_mono (w_f_X9_isHome_21 h_1) (fun _ k => Fr_trans k_1 (Fr_mono fs_X9_isHome_21__X9_isHome k))
  · refine pk_ob2 (w_f_X9_ofGoose h_1 p1 4) (fun r_3 h_3 k_2 => ?_)
    replace k_2 := Fr_trans k_1 (Fr_mono fs_X9_ofGoose__X9_isHome k_2)
    refine pk_if (fun _ => ?_) (fun _ => ?_)
    · exact pk_mono (w_f_X9_isHome_22 h_3 1) (fun _ k => Fr_trans k_2 (Fr_mono fs_X9_isHome_22__X9_isHome k))
    · exact pk_mono (w_f_X9_isHome_21 h_3) (fun _ k => Fr_trans k_2 (Fr_mono fs_X9_isHome_21__X9_isHome k))
def S_X9_put_3 : CL := [(0, 0, 3), (1, 0, 2)]
theorem fm_X9_put_3_0_0_3 : (0, 0, 3) ∈ S_X9_put_3 := by decide
theorem fm_X9_put_3_1_0_2 : (1, 0, 2) ∈ S_X9_put_3 := by decide
theorem w_f_X9_put_3  : ∀ (n : Nat) (h : HS) (x1 : Int32) (x2 : Int32), pk (f_X9_put_3  n h x1 x2) (fun a => Fr S_X9_put_3 h a) := by
  intro n
  induction n with
  | zero => intro h x1 x2; exact pk_none
  | succ n ih =>
    intro h x1 x2
    rw [f_X9_put_3_s]
    refine pk_if (fun _ => ?_) (fun _ => ?_)
    · exact pk_some (Fr_refl _ h)
    · refine pk_chk (fun _ => ?_)
      exact pk_mono (ih (sI (sA h 0 2 (upd (eA h 0 2) (((eI h 0 3)).toNatClampNeg) (vp_nar .byte (((x1 >>> (x2 &&& 31))).toInt8.toInt32)))) 0 3 ((eI h 0 3) + 1)) x1 (x2 - 8)) (fun _ k => Fr_trans (Fr_sI fm_X9_put_3_0_0_3 (Fr_sA fm_X9_put_3_1_0_2 (Fr_refl _ h))) k)
def S_X9_put : CL := [(0, 0, 3), (1, 0, 2)]
theorem fs_X9_put_3__X9_put : ∀ x ∈ S_X9_put_3, x ∈ S_X9_put := by decide
theorem w_f_X9_put (h : HS) (p1 : Int32) : pk (f_X9_put h p1) (fun a => Fr S_X9_put h a) := by
  unfold f_X9_put
  exact pk_mono (w_f_X9_put_3 8589934592 h p1 24) (fun _ k => Fr_trans (Fr_refl _ h) (Fr_mono fs_X9_put_3__X9_put k))
def S_X9_feed : CL := [(0, 0, 3), (1, 0, 2)]
theorem fs_X9_put__X9_feed : ∀ x ∈ S_X9_put, x ∈ S_X9_feed := by decide
theorem w_f_X9_feed (h : HS) (p1 : Int32) (p2 : Int32) (p3 : Int32) (p4 : Int32) (p5 : Int32) : pk (f_X9_feed h p1 p2 p3 p4 p5) (fun a => Fr S_X9_feed h a.2) := by
  unfold f_X9_feed
  refine pk_if (fun _ => ?_) (fun _ => ?_)
  · refine pk_ob1 (w_f_X9_put h p1) (fun h_2 k_1 => ?_)
    replace k_1 := Fr_trans (Fr_refl _ h) (Fr_mono fs_X9_put__X9_feed k_1)
    refine pk_ob1 (w_f_X9_put h_2 p2) (fun h_3 k_2 => ?_)
    replace k_2 := Fr_trans k_1 (Fr_mono fs_X9_put__X9_feed k_2)
    refine pk_ob1 (w_f_X9_put h_3 p3) (fun h_4 k_3 => ?_)
    replace k_3 := Fr_trans k_2 (Fr_mono fs_X9_put__X9_feed k_3)
    refine pk_ob1 (w_f_X9_put h_4 p4) (fun h_5 k_4 => ?_)
    replace k_4 := Fr_trans k_3 (Fr_mono fs_X9_put__X9_feed k_4)
    refine pk_ob1 (w_f_X9_put h_5 p5) (fun h_6 k_5 => ?_)
    replace k_5 := Fr_trans k_4 (Fr_mono fs_X9_put__X9_feed k_5)
    exact pk_some k_5
  · exact pk_some (Fr_refl _ h)
def S_X9_end : CL := [(0, 0, 3)]
theorem fm_X9_end_0_0_3 : (0, 0, 3) ∈ S_X9_end := by decide
theorem w_f_X9_end (h : HS) (p1 : Int32) : pk (f_X9_end h p1) (fun a => Fr S_X9_end h a.2) := by
  unfold f_X9_end
  refine pk_obf (fun r_1 => ?_)
  refine pk_if (fun _ => ?_) (fun _ => ?_)
  · exact pk_some (Fr_refl _ h)
  · exact pk_some (Fr_sI fm_X9_end_0_0_3 (Fr_refl _ h))
def S_X9_draw : CL := [(1, 0, 0)]
theorem fm_X9_draw_1_0_0 : (1, 0, 0) ∈ S_X9_draw := by decide
theorem w_f_X9_draw (h : HS) : pk (f_X9_draw h) (fun a => Fr S_X9_draw h a.2) := by
  unfold f_X9_draw
  exact pk_some (Fr_sA fm_X9_draw_1_0_0 (Fr_refl _ h))
def S_X9_geeseOf_4 : CL := []
theorem w_f_X9_geeseOf_30 (k4 : HS → Int32 → Int32 → Int32 → Option (Int32 × HS)) (hk_k4 : ∀ (h : HS) (x0 : Int32) (x1 : Int32) (x2 : Int32), pk (k4 h x0 x1 x2) (fun a => Fr S_X9_geeseOf_4 h a.2)) (h : HS) (x1 : Int32) (x3 : Int32) (y0 : Int32) (y1 : Int32) : pk (f_X9_geeseOf_30 k4 h x1 x3 y0 y1) (fun a => Fr S_X9_geeseOf_4 h a.2) := by
  unfold f_X9_geeseOf_30
  exact pk_mono (hk_k4 h x1 (y1 + y0) (x3 + 1)) (fun _ k => Fr_trans (Fr_refl _ h) k)
theorem fs_X9_ofGoose__X9_geeseOf_4 : ∀ x ∈ S_X9_ofGoose, x ∈ S_X9_geeseOf_4 := by decide
theorem w_f_X9_geeseOf_4  : ∀ (n : Nat) (h : HS) (x1 : Int32) (x2 : Int32) (x3 : Int32), pk (f_X9_geeseOf_4  n h x1 x2 x3) (fun a => Fr S_X9_geeseOf_4 h a.2) := by
  intro n
  induction n with
  | zero => intro h x1 x2 x3; exact pk_none
  | succ n ih =>
    intro h x1 x2 x3
    rw [f_X9_geeseOf_4_s]
    refine pk_if (fun _ => ?_) (fun _ => ?_)
    · exact pk_some (Fr_refl _ h)
    · refine pk_ob2 (w_f_X9_ofGoose h x3 4) (fun r_2 h_2 k_1 => ?_)
      replace k_1 := Fr_trans (Fr_refl _ h) (Fr_mono fs_X9_ofGoose__X9_geeseOf_4 k_1)
      refine pk_if (fun _ => ?_) (fun _ => ?_)
      · exact pk_mono (w_f_X9_geeseOf_30 (f_X9_geeseOf_4 n) ih h_2 x1 x3 1 x2) (fun _ k => Fr_trans k_1 k)
      · exact pk_mono (w_f_X9_geeseOf_30 (f_X9_geeseOf_4 n) ih h_2 x1 x3 0 x2) (fun _ k => Fr_trans k_1 k)
def S_X9_geeseOf : CL := []
theorem fs_X9_geeseOf_4__X9_geeseOf : ∀ x ∈ S_X9_geeseOf_4, x ∈ S_X9_geeseOf := by decide
theorem w_f_X9_geeseOf (h : HS) (p1 : Int32) : pk (f_X9_geeseOf h p1) (fun a => Fr S_X9_geeseOf h a.2) := by
  unfold f_X9_geeseOf
  exact pk_mono (w_f_X9_geeseOf_4 8589934592 h p1 0 0) (fun _ k => Fr_trans (Fr_refl _ h) (Fr_mono fs_X9_geeseOf_4__X9_geeseOf k))
def S_X9_image : CL := [(1, 0, 0), (1, 0, 1)]
theorem fs_X9_copies__X9_image : ∀ x ∈ S_X9_copies, x ∈ S_X9_image := by decide
theorem w_f_X9_image (h : HS) : pk (f_X9_image h) (fun a => Fr S_X9_image h a.2) := by
  unfold f_X9_image
  refine pk_ob1 (w_f_X9_copies h 1) (fun h_1 k_1 => ?_)
  replace k_1 := Fr_trans (Fr_refl _ h) (Fr_mono fs_X9_copies__X9_image k_1)
  exact pk_some k_1
def S_X9_back : CL := [(1, 0, 0), (1, 0, 1)]
theorem fs_X9_copies__X9_back : ∀ x ∈ S_X9_copies, x ∈ S_X9_back := by decide
theorem w_f_X9_back (h : HS) : pk (f_X9_back h) (fun a => Fr S_X9_back h a.2) := by
  unfold f_X9_back
  refine pk_ob1 (w_f_X9_copies h 0) (fun h_1 k_1 => ?_)
  replace k_1 := Fr_trans (Fr_refl _ h) (Fr_mono fs_X9_copies__X9_back k_1)
  exact pk_some k_1
def S_X9_about_203 : CL := []
theorem w_f_X9_about_203 (h : HS) (y0 : Int32) : pk (f_X9_about_203 h y0) (fun a => Fr S_X9_about_203 h a.2) := by
  unfold f_X9_about_203
  exact pk_some (Fr_refl _ h)
def S_X9_about : CL := []
theorem fs_X9_isMarket__X9_about : ∀ x ∈ S_X9_isMarket, x ∈ S_X9_about := by decide
theorem fs_X9_about_203__X9_about : ∀ x ∈ S_X9_about_203, x ∈ S_X9_about := by decide
theorem fs_X9_geeseOf__X9_about : ∀ x ∈ S_X9_geeseOf, x ∈ S_X9_about := by decide
theorem w_f_X9_about (h : HS) (p1 : Int32) : pk (f_X9_about h p1) (fun a => Fr S_X9_about h a.2) := by
  unfold f_X9_about
  refine pk_if (fun _ => ?_) (fun _ => ?_)
  · exact pk_some (Fr_refl _ h)
  · refine pk_if (fun _ => ?_) (fun _ => ?_)
    · exact pk_some (Fr_refl _ h)
    · refine pk_if (fun _ => ?_) (fun _ => ?_)
      · exact pk_some (Fr_refl _ h)
      · refine pk_if (fun _ => ?_) (fun _ => ?_)
        · exact pk_some (Fr_refl _ h)
        · refine pk_if (fun _ => ?_) (fun _ => ?_)
          · exact pk_some (Fr_refl _ h)
          · refine pk_if (fun _ => ?_) (fun _ => ?_)
            · exact pk_some (Fr_refl _ h)
            · refine pk_if (fun _ => ?_) (fun _ => ?_)
              · exact pk_some (Fr_refl _ h)
              · refine pk_if (fun _ => ?_) (fun _ => ?_)
                · exact pk_some (Fr_refl _ h)
                · refine pk_if (fun _ => ?_) (fun _ => ?_)
                  · exact pk_some (Fr_refl _ h)
                  · refine pk_if (fun _ => ?_) (fun _ => ?_)
                    · exact pk_some (Fr_refl _ h)
                    · refine pk_ob2 (w_f_X9_isMarket h (p1 - 10)) (fun r_11 h_11 k_1 => ?_)
                      replace k_1 := Fr_trans (Fr_refl _ h) (Fr_mono fs_X9_isMarket__X9_about k_1)
                      refine pk_if (fun _ => ?_) (fun _ => ?_)
                      · refine pk_obf (fun r_13 => ?_)
                        refine pk_if (fun _ => ?_) (fun _ => ?_)
                        · exact pk_mono (w_f_X9_about_203 h_11 (-2)) (fun _ k => Fr_trans k_1 (Fr_mono fs_X9_about_203__X9_about k))
                        · refine pk_ob2 (w_f_X9_geeseOf h_11 (p1 - 20)) (fun r_15 h_15 k_2 => ?_)
                          replace k_2 := Fr_trans k_1 (Fr_mono fs_X9_geeseOf__X9_about k_2)
                          exact pk_mono (w_f_X9_about_203 h_15 r_15) (fun _ k => Fr_trans k_2 (Fr_mono fs_X9_about_203__X9_about k))
                      · refine pk_chk (fun _ => ?_)
                        refine pk_chk (fun _ => ?_)
                        refine pk_chk (fun _ => ?_)
                        exact pk_some k_1
def S_X9_holds_45 : CL := []
theorem w_f_X9_holds_45 (h : HS) (y0 : Int32) : pk (f_X9_holds_45 h y0) (fun a => Fr S_X9_holds_45 h a.2) := by
  unfold f_X9_holds_45
  exact pk_some (Fr_refl _ h)
def S_X9_holds : CL := []
theorem fs_X9_geeseOf__X9_holds : ∀ x ∈ S_X9_geeseOf, x ∈ S_X9_holds := by decide
theorem fs_X9_holds_45__X9_holds : ∀ x ∈ S_X9_holds_45, x ∈ S_X9_holds := by decide
theorem w_f_X9_holds (h : HS) : pk (f_X9_holds h) (fun a => Fr S_X9_holds h a.2) := by
  unfold f_X9_holds
  refine pk_ob2 (w_f_X9_geeseOf h 0) (fun r_1 h_1 k_1 => ?_)
  replace k_1 := Fr_trans (Fr_refl _ h) (Fr_mono fs_X9_geeseOf__X9_holds k_1)
  refine pk_if (fun _ => ?_) (fun _ => ?_)
  · exact pk_some k_1
  · refine pk_chk (fun _ => ?_)
    refine pk_if (fun _ => ?_) (fun _ => ?_)
    · exact pk_mono (w_f_X9_holds_45 h_1 (((eA h_1 0 0) 120) / (((eA h 0 0) 2) + r_1))) (fun _ k => Fr_trans k_1 (Fr_mono fs_X9_holds_45__X9_holds k))
    · exact pk_mono (w_f_X9_holds_45 h_1 999) (fun _ k => Fr_trans k_1 (Fr_mono fs_X9_holds_45__X9_holds k))
def S_X9_next_439 : CL := []
theorem w_f_X9_next_439 (h : HS) : pk (f_X9_next_439 h) (fun a => Fr S_X9_next_439 h a) := by
  unfold f_X9_next_439
  exact pk_some (Fr_refl _ h)
def S_X9_next_426 : CL := [(0, 0, 15), (0, 0, 18)]
theorem fm_X9_next_426_0_0_15 : (0, 0, 15) ∈ S_X9_next_426 := by decide
theorem fm_X9_next_426_0_0_18 : (0, 0, 18) ∈ S_X9_next_426 := by decide
theorem fs_X9_next_439__X9_next_426 : ∀ x ∈ S_X9_next_439, x ∈ S_X9_next_426 := by decide
theorem w_f_X9_next_426 (h : HS) (y0 : Int32) : pk (f_X9_next_426 h y0) (fun a => Fr S_X9_next_426 h a) := by
  unfold f_X9_next_426
  exact pk_mono (w_f_X9_next_439 (sI (sI h 0 18 y0) 0 15 ((eI h 0 15) + 1))) (fun _ k => Fr_trans (Fr_sI fm_X9_next_426_0_0_15 (Fr_sI fm_X9_next_426_0_0_18 (Fr_refl _ h))) (Fr_mono fs_X9_next_439__X9_next_426 k))
def S_X9_next_385 : CL := [(0, 0, 15), (0, 0, 18)]
theorem fs_X9_next_439__X9_next_385 : ∀ x ∈ S_X9_next_439, x ∈ S_X9_next_385 := by decide
theorem fs_X9_next_426__X9_next_385 : ∀ x ∈ S_X9_next_426, x ∈ S_X9_next_385 := by decide
theorem w_f_X9_next_385 (h : HS) (x1 : Int32) : pk (f_X9_next_385 h x1) (fun a => Fr S_X9_next_385 h a) := by
  unfold f_X9_next_385
  refine pk_if (fun _ => ?_) (fun _ => ?_)
  · exact pk_mono (w_f_X9_next_439 h) (fun _ k => Fr_trans (Fr_refl _ h) (Fr_mono fs_X9_next_439__X9_next_385 k))
  · refine pk_chk (fun _ => ?_)
    refine pk_if (fun _ => ?_) (fun _ => ?_)
    · refine pk_if (fun _ => ?_) (fun _ => ?_)
      · exact pk_mono (w_f_X9_next_426 h 300) (fun _ k => Fr_trans (Fr_refl _ h) (Fr_mono fs_X9_next_426__X9_next_385 k))
      · exact pk_mono (w_f_X9_next_426 h 301) (fun _ k => Fr_trans (Fr_refl _ h) (Fr_mono fs_X9_next_426__X9_next_385 k))
    · exact pk_mono (w_f_X9_next_439 h) (fun _ k => Fr_trans (Fr_refl _ h) (Fr_mono fs_X9_next_439__X9_next_385 k))
def S_X9_next_370 : CL := [(0, 0, 15), (0, 0, 17), (0, 0, 18)]
theorem fm_X9_next_370_0_0_17 : (0, 0, 17) ∈ S_X9_next_370 := by decide
theorem fs_X9_next_385__X9_next_370 : ∀ x ∈ S_X9_next_385, x ∈ S_X9_next_370 := by decide
theorem fs_X9_next_439__X9_next_370 : ∀ x ∈ S_X9_next_439, x ∈ S_X9_next_370 := by decide
theorem w_f_X9_next_370 (h : HS) (x1 : Int32) (y0 : Int32) : pk (f_X9_next_370 h x1 y0) (fun a => Fr S_X9_next_370 h a) := by
  unfold f_X9_next_370
  refine pk_if (fun _ => ?_) (fun _ => ?_)
  · exact pk_mono (w_f_X9_next_385 (sI h 0 17 y0) x1) (fun _ k => Fr_trans (Fr_sI fm_X9_next_370_0_0_17 (Fr_refl _ h)) (Fr_mono fs_X9_next_385__X9_next_370 k))
  · refine pk_if (fun _ => ?_) (fun _ => ?_)
    · exact pk_mono (w_f_X9_next_385 (sI h 0 17 y0) x1) (fun _ k => Fr_trans (Fr_sI fm_X9_next_370_0_0_17 (Fr_refl _ h)) (Fr_mono fs_X9_next_385__X9_next_370 k))
    · exact pk_mono (w_f_X9_next_439 (sI h 0 17 y0)) (fun _ k => Fr_trans (Fr_sI fm_X9_next_370_0_0_17 (Fr_refl _ h)) (Fr_mono fs_X9_next_439__X9_next_370 k))
def S_X9_next_365 : CL := [(0, 0, 15), (0, 0, 17), (0, 0, 18)]
theorem fs_X9_next_370__X9_next_365 : ∀ x ∈ S_X9_next_370, x ∈ S_X9_next_365 := by decide
theorem w_f_X9_next_365 (h : HS) (x1 : Int32) : pk (f_X9_next_365 h x1) (fun a => Fr S_X9_next_365 h a) := by
  unfold f_X9_next_365
  exact pk_mono (w_f_X9_next_370 h x1 3) (fun _ k => Fr_trans (Fr_refl _ h) (Fr_mono fs_X9_next_370__X9_next_365 k))
def S_X9_next_232 : CL := [(0, 0, 15), (0, 0, 18)]
theorem fm_X9_next_232_0_0_15 : (0, 0, 15) ∈ S_X9_next_232 := by decide
theorem fm_X9_next_232_0_0_18 : (0, 0, 18) ∈ S_X9_next_232 := by decide
theorem w_f_X9_next_299 (k232 : HS → Option HS) (hk_k232 : ∀ (h : HS), pk (k232 h) (fun a => Fr S_X9_next_232 h a)) (h : HS) (y0 : Int32) : pk (f_X9_next_299 k232 h y0) (fun a => Fr S_X9_next_232 h a) := by
  unfold f_X9_next_299
  exact pk_mono (hk_k232 (sI (sI h 0 18 y0) 0 15 ((eI h 0 15) + 1))) (fun _ k => Fr_trans (Fr_sI fm_X9_next_232_0_0_15 (Fr_sI fm_X9_next_232_0_0_18 (Fr_refl _ h))) k)
theorem fs_X9_next_439__X9_next_232 : ∀ x ∈ S_X9_next_439, x ∈ S_X9_next_232 := by decide
theorem w_f_X9_next_232  : ∀ (n : Nat) (h : HS), pk (f_X9_next_232  n h) (fun a => Fr S_X9_next_232 h a) := by
  intro n
  induction n with
  | zero => intro h; exact pk_none
  | succ n ih =>
    intro h
    rw [f_X9_next_232_s]
    refine pk_if (fun _ => ?_) (fun _ => ?_)
    · exact pk_mono (w_f_X9_next_439 h) (fun _ k => Fr_trans (Fr_refl _ h) (Fr_mono fs_X9_next_439__X9_next_232 k))
    · refine pk_chk (fun _ => ?_)
      refine pk_obf (fun r_22 => ?_)
      refine pk_if (fun _ => ?_) (fun _ => ?_)
      · exact pk_mono (w_f_X9_next_439 h) (fun _ k => Fr_trans (Fr_refl _ h) (Fr_mono fs_X9_next_439__X9_next_232 k))
      · refine pk_if (fun _ => ?_) (fun _ => ?_)
        · refine pk_chk (fun _ => ?_)
          exact pk_mono (w_f_X9_next_299 (f_X9_next_232 n) ih h (((10 * (eI h 0 18)) + ((eA h 0 2) (((eI h 0 15)).toNatClampNeg))) - 48)) (fun _ k => Fr_trans (Fr_refl _ h) k)
        · exact pk_mono (w_f_X9_next_299 (f_X9_next_232 n) ih h (eI h 0 18)) (fun _ k => Fr_trans (Fr_refl _ h) k)
def S_X9_next_205 : CL := [(0, 0, 17)]
theorem fm_X9_next_205_0_0_17 : (0, 0, 17) ∈ S_X9_next_205 := by decide
theorem fs_X9_next_439__X9_next_205 : ∀ x ∈ S_X9_next_439, x ∈ S_X9_next_205 := by decide
theorem w_f_X9_next_205 (h : HS) (y0 : Int32) : pk (f_X9_next_205 h y0) (fun a => Fr S_X9_next_205 h a) := by
  unfold f_X9_next_205
  exact pk_mono (w_f_X9_next_439 (sI h 0 17 y0)) (fun _ k => Fr_trans (Fr_sI fm_X9_next_205_0_0_17 (Fr_refl _ h)) (Fr_mono fs_X9_next_439__X9_next_205 k))
def S_X9_next_189 : CL := [(0, 0, 17), (0, 0, 18)]
theorem fm_X9_next_189_0_0_18 : (0, 0, 18) ∈ S_X9_next_189 := by decide
theorem fs_X9_next_205__X9_next_189 : ∀ x ∈ S_X9_next_205, x ∈ S_X9_next_189 := by decide
theorem w_f_X9_next_189 (h : HS) (y0 : Int32) : pk (f_X9_next_189 h y0) (fun a => Fr S_X9_next_189 h a) := by
  unfold f_X9_next_189
  refine pk_if (fun _ => ?_) (fun _ => ?_)
  · exact pk_mono (w_f_X9_next_205 (sI h 0 18 y0) 1) (fun _ k => Fr_trans (Fr_sI fm_X9_next_189_0_0_18 (Fr_refl _ h)) (Fr_mono fs_X9_next_205__X9_next_189 k))
  · exact pk_mono (w_f_X9_next_205 (sI h 0 18 y0) 4) (fun _ k => Fr_trans (Fr_sI fm_X9_next_189_0_0_18 (Fr_refl _ h)) (Fr_mono fs_X9_next_205__X9_next_189 k))
def S_X9_next_173 : CL := [(0, 0, 17), (0, 0, 18)]
theorem fs_X9_next_189__X9_next_173 : ∀ x ∈ S_X9_next_189, x ∈ S_X9_next_173 := by decide
theorem w_f_X9_next_173 (h : HS) (x2 : Int64) (x4 : Int32) : pk (f_X9_next_173 h x2 x4) (fun a => Fr S_X9_next_173 h a) := by
  unfold f_X9_next_173
  refine pk_if (fun _ => ?_) (fun _ => ?_)
  · refine pk_obf (fun r_37 => ?_)
    exact pk_mono (w_f_X9_next_189 h r_37) (fun _ k => Fr_trans (Fr_refl _ h) (Fr_mono fs_X9_next_189__X9_next_173 k))
  · exact pk_mono (w_f_X9_next_189 h (-1)) (fun _ k => Fr_trans (Fr_refl _ h) (Fr_mono fs_X9_next_189__X9_next_173 k))
def S_X9_next_99 : CL := [(0, 0, 15), (0, 0, 17), (0, 0, 18)]
theorem fm_X9_next_99_0_0_15 : (0, 0, 15) ∈ S_X9_next_99 := by decide
theorem w_f_X9_next_156 (k99 : HS → Int64 → Int32 → Option HS) (hk_k99 : ∀ (h : HS) (x0 : Int64) (x1 : Int32), pk (k99 h x0 x1) (fun a => Fr S_X9_next_99 h a)) (h : HS) (x4 : Int32) (y0 : Int64) : pk (f_X9_next_156 k99 h x4 y0) (fun a => Fr S_X9_next_99 h a) := by
  unfold f_X9_next_156
  exact pk_mono (hk_k99 (sI h 0 15 ((eI h 0 15) + 1)) y0 (x4 + 1)) (fun _ k => Fr_trans (Fr_sI fm_X9_next_99_0_0_15 (Fr_refl _ h)) k)
theorem fs_X9_next_173__X9_next_99 : ∀ x ∈ S_X9_next_173, x ∈ S_X9_next_99 := by decide
theorem w_f_X9_next_99  : ∀ (n : Nat) (h : HS) (x2 : Int64) (x4 : Int32), pk (f_X9_next_99  n h x2 x4) (fun a => Fr S_X9_next_99 h a) := by
  intro n
  induction n with
  | zero => intro h x2 x4; exact pk_none
  | succ n ih =>
    intro h x2 x4
    rw [f_X9_next_99_s]
    refine pk_if (fun _ => ?_) (fun _ => ?_)
    · exact pk_mono (w_f_X9_next_173 h x2 x4) (fun _ k => Fr_trans (Fr_refl _ h) (Fr_mono fs_X9_next_173__X9_next_99 k))
    · refine pk_chk (fun _ => ?_)
      refine pk_obf (fun r_28 => ?_)
      refine pk_if (fun _ => ?_) (fun _ => ?_)
      · exact pk_mono (w_f_X9_next_173 h x2 x4) (fun _ k => Fr_trans (Fr_refl _ h) (Fr_mono fs_X9_next_173__X9_next_99 k))
      · refine pk_if (fun _ => ?_) (fun _ => ?_)
        · exact pk_mono (w_f_X9_next_156 (f_X9_next_99 n) ih h x4 x2) (fun _ k => Fr_trans (Fr_refl _ h) k)
        · refine pk_chk (fun _ => ?_)
          exact pk_mono (w_f_X9_next_156 (f_X9_next_99 n) ih h x4 (((64 * x2) + ((((eA h 0 2) (((eI h 0 15)).toNatClampNeg))).toInt64)) - 64)) (fun _ k => Fr_trans (Fr_refl _ h) k)
def S_X9_next_52 : CL := [(0, 0, 15), (0, 0, 16), (0, 0, 17), (0, 0, 18)]
theorem fm_X9_next_52_0_0_17 : (0, 0, 17) ∈ S_X9_next_52 := by decide
theorem fm_X9_next_52_0_0_16 : (0, 0, 16) ∈ S_X9_next_52 := by decide
theorem fm_X9_next_52_0_0_18 : (0, 0, 18) ∈ S_X9_next_52 := by decide
theorem fm_X9_next_52_0_0_15 : (0, 0, 15) ∈ S_X9_next_52 := by decide
theorem fs_X9_next_365__X9_next_52 : ∀ x ∈ S_X9_next_365, x ∈ S_X9_next_52 := by decide
theorem fs_X9_next_370__X9_next_52 : ∀ x ∈ S_X9_next_370, x ∈ S_X9_next_52 := by decide
theorem fs_X9_next_232__X9_next_52 : ∀ x ∈ S_X9_next_232, x ∈ S_X9_next_52 := by decide
theorem fs_X9_next_99__X9_next_52 : ∀ x ∈ S_X9_next_99, x ∈ S_X9_next_52 := by decide
theorem w_f_X9_next_52 (h : HS) : pk (f_X9_next_52 h) (fun a => Fr S_X9_next_52 h a) := by
  unfold f_X9_next_52
  refine pk_if (fun _ => ?_) (fun _ => ?_)
  · exact pk_some (Fr_sI fm_X9_next_52_0_0_17 (Fr_sI fm_X9_next_52_0_0_16 (Fr_refl _ h)))
  · refine pk_chk (fun _ => ?_)
    refine pk_obf (fun r_8 => ?_)
    refine pk_if (fun _ => ?_) (fun _ => ?_)
    · refine pk_obf (fun r_10 => ?_)
      refine pk_if (fun _ => ?_) (fun _ => ?_)
      · refine pk_obf (fun r_12 => ?_)
        refine pk_if (fun _ => ?_) (fun _ => ?_)
        · refine pk_obf (fun r_14 => ?_)
          refine pk_if (fun _ => ?_) (fun _ => ?_)
          · refine pk_if (fun _ => ?_) (fun _ => ?_)
            · exact pk_mono (w_f_X9_next_365 (sI (sI (sI h 0 16 (eI h 0 15)) 0 15 ((eI h 0 15) + 1)) 0 18 ((eA h 0 2) (((eI h 0 15)).toNatClampNeg))) ((eA h 0 2) (((eI h 0 15)).toNatClampNeg))) (fun _ k => Fr_trans (Fr_sI fm_X9_next_52_0_0_18 (Fr_sI fm_X9_next_52_0_0_15 (Fr_sI fm_X9_next_52_0_0_16 (Fr_refl _ h)))) (Fr_mono fs_X9_next_365__X9_next_52 k))
            · refine pk_if (fun _ => ?_) (fun _ => ?_)
              · exact pk_mono (w_f_X9_next_365 (sI (sI (sI h 0 16 (eI h 0 15)) 0 15 ((eI h 0 15) + 1)) 0 18 ((eA h 0 2) (((eI h 0 15)).toNatClampNeg))) ((eA h 0 2) (((eI h 0 15)).toNatClampNeg))) (fun _ k => Fr_trans (Fr_sI fm_X9_next_52_0_0_18 (Fr_sI fm_X9_next_52_0_0_15 (Fr_sI fm_X9_next_52_0_0_16 (Fr_refl _ h)))) (Fr_mono fs_X9_next_365__X9_next_52 k))
              · exact pk_mono (w_f_X9_next_370 (sI (sI (sI h 0 16 (eI h 0 15)) 0 15 ((eI h 0 15) + 1)) 0 18 ((eA h 0 2) (((eI h 0 15)).toNatClampNeg))) ((eA h 0 2) (((eI h 0 15)).toNatClampNeg)) 4) (fun _ k => Fr_trans (Fr_sI fm_X9_next_52_0_0_18 (Fr_sI fm_X9_next_52_0_0_15 (Fr_sI fm_X9_next_52_0_0_16 (Fr_refl _ h)))) (Fr_mono fs_X9_next_370__X9_next_52 k))
          · exact pk_mono (w_f_X9_next_365 (sI (sI (sI h 0 16 (eI h 0 15)) 0 15 ((eI h 0 15) + 1)) 0 18 ((eA h 0 2) (((eI h 0 15)).toNatClampNeg))) ((eA h 0 2) (((eI h 0 15)).toNatClampNeg))) (fun _ k => Fr_trans (Fr_sI fm_X9_next_52_0_0_18 (Fr_sI fm_X9_next_52_0_0_15 (Fr_sI fm_X9_next_52_0_0_16 (Fr_refl _ h)))) (Fr_mono fs_X9_next_365__X9_next_52 k))
        · exact pk_mono (w_f_X9_next_365 (sI (sI (sI h 0 16 (eI h 0 15)) 0 15 ((eI h 0 15) + 1)) 0 18 ((eA h 0 2) (((eI h 0 15)).toNatClampNeg))) ((eA h 0 2) (((eI h 0 15)).toNatClampNeg))) (fun _ k => Fr_trans (Fr_sI fm_X9_next_52_0_0_18 (Fr_sI fm_X9_next_52_0_0_15 (Fr_sI fm_X9_next_52_0_0_16 (Fr_refl _ h)))) (Fr_mono fs_X9_next_365__X9_next_52 k))
      · exact pk_mono (w_f_X9_next_232 8589934592 (sI (sI (sI h 0 16 (eI h 0 15)) 0 17 2) 0 18 0)) (fun _ k => Fr_trans (Fr_sI fm_X9_next_52_0_0_18 (Fr_sI fm_X9_next_52_0_0_17 (Fr_sI fm_X9_next_52_0_0_16 (Fr_refl _ h)))) (Fr_mono fs_X9_next_232__X9_next_52 k))
    · exact pk_mono (w_f_X9_next_99 8589934592 (sI h 0 16 (eI h 0 15)) 0 0) (fun _ k => Fr_trans (Fr_sI fm_X9_next_52_0_0_16 (Fr_refl _ h)) (Fr_mono fs_X9_next_99__X9_next_52 k))
def S_X9_next_0 : CL := [(0, 0, 15), (0, 0, 16), (0, 0, 17), (0, 0, 18)]
theorem fm_X9_next_0_0_0_15 : (0, 0, 15) ∈ S_X9_next_0 := by decide
theorem w_f_X9_next_39 (k0 : HS → Option HS) (hk_k0 : ∀ (h : HS), pk (k0 h) (fun a => Fr S_X9_next_0 h a)) (h : HS) : pk (f_X9_next_39 k0 h) (fun a => Fr S_X9_next_0 h a) := by
  unfold f_X9_next_39
  exact pk_mono (hk_k0 (sI h 0 15 ((eI h 0 15) + 1))) (fun _ k => Fr_trans (Fr_sI fm_X9_next_0_0_0_15 (Fr_refl _ h)) k)
theorem fs_X9_next_52__X9_next_0 : ∀ x ∈ S_X9_next_52, x ∈ S_X9_next_0 := by decide
theorem w_f_X9_next_0  : ∀ (n : Nat) (h : HS), pk (f_X9_next_0  n h) (fun a => Fr S_X9_next_0 h a) := by
  intro n
  induction n with
  | zero => intro h; exact pk_none
  | succ n ih =>
    intro h
    rw [f_X9_next_0_s]
    refine pk_if (fun _ => ?_) (fun _ => ?_)
    · exact pk_mono (w_f_X9_next_52 h) (fun _ k => Fr_trans (Fr_refl _ h) (Fr_mono fs_X9_next_52__X9_next_0 k))
    · refine pk_chk (fun _ => ?_)
      refine pk_if (fun _ => ?_) (fun _ => ?_)
      · exact pk_mono (w_f_X9_next_39 (f_X9_next_0 n) ih h) (fun _ k => Fr_trans (Fr_refl _ h) k)
      · refine pk_chk (fun _ => ?_)
        refine pk_if (fun _ => ?_) (fun _ => ?_)
        · exact pk_mono (w_f_X9_next_39 (f_X9_next_0 n) ih h) (fun _ k => Fr_trans (Fr_refl _ h) k)
        · exact pk_mono (w_f_X9_next_52 h) (fun _ k => Fr_trans (Fr_refl _ h) (Fr_mono fs_X9_next_52__X9_next_0 k))
def S_X9_next : CL := [(0, 0, 15), (0, 0, 16), (0, 0, 17), (0, 0, 18)]
theorem fs_X9_next_0__X9_next : ∀ x ∈ S_X9_next_0, x ∈ S_X9_next := by decide
theorem w_f_X9_next (h : HS) : pk (f_X9_next h) (fun a => Fr S_X9_next h a) := by
  unfold f_X9_next
  exact pk_mono (w_f_X9_next_0 8589934592 h) (fun _ k => Fr_trans (Fr_refl _ h) (Fr_mono fs_X9_next_0__X9_next k))
def S_X9_isSign_21 : CL := []
theorem w_f_X9_isSign_21 (h : HS) (y0 : Int32) : pk (f_X9_isSign_21 h y0) (fun a => Fr S_X9_isSign_21 h a.2) := by
  unfold f_X9_isSign_21
  refine pk_chk (fun _ => ?_)
  exact pk_some (Fr_refl _ h)
def S_X9_isSign_20 : CL := []
theorem fs_X9_isSign_21__X9_isSign_20 : ∀ x ∈ S_X9_isSign_21, x ∈ S_X9_isSign_20 := by decide
theorem w_f_X9_isSign_20 (h : HS) : pk (f_X9_isSign_20 h) (fun a => Fr S_X9_isSign_20 h a.2) := by
  unfold f_X9_isSign_20
  exact pk_mono (w_f_X9_isSign_21 h 0) (fun _ k => Fr_trans (Fr_refl _ h) (Fr_mono fs_X9_isSign_21__X9_isSign_20 k))
def S_X9_isSign : CL := []
theorem fs_X9_isSign_21__X9_isSign : ∀ x ∈ S_X9_isSign_21, x ∈ S_X9_isSign := by decide
theorem fs_X9_isSign_20__X9_isSign : ∀ x ∈ S_X9_isSign_20, x ∈ S_X9_isSign := by decide
theorem w_f_X9_isSign (h : HS) (p1 : Int32) : pk (f_X9_isSign h p1) (fun a => Fr S_X9_isSign h a.2) := by
  unfold f_X9_isSign
  refine pk_if (fun _ => ?_) (fun _ => ?_)
  · refine pk_if (fun _ => ?_) (fun _ => ?_)
    · exact pk_mono (w_f_X9_isSign_21 h 1) (fun _ k => Fr_trans (Fr_refl _ h) (Fr_mono fs_X9_isSign_21__X9_isSign k))
    · exact pk_mono (w_f_X9_isSign_20 h) (fun _ k => Fr_trans (Fr_refl _ h) (Fr_mono fs_X9_isSign_20__X9_isSign k))
  · exact pk_mono (w_f_X9_isSign_20 h) (fun _ k => Fr_trans (Fr_refl _ h) (Fr_mono fs_X9_isSign_20__X9_isSign k))
def S_X9_isWord_21 : CL := []
theorem w_f_X9_isWord_21 (h : HS) (y0 : Int32) : pk (f_X9_isWord_21 h y0) (fun a => Fr S_X9_isWord_21 h a.2) := by
  unfold f_X9_isWord_21
  refine pk_chk (fun _ => ?_)
  exact pk_some (Fr_refl _ h)
def S_X9_isWord_20 : CL := []
theorem fs_X9_isWord_21__X9_isWord_20 : ∀ x ∈ S_X9_isWord_21, x ∈ S_X9_isWord_20 := by decide
theorem w_f_X9_isWord_20 (h : HS) : pk (f_X9_isWord_20 h) (fun a => Fr S_X9_isWord_20 h a.2) := by
  unfold f_X9_isWord_20
  exact pk_mono (w_f_X9_isWord_21 h 0) (fun _ k => Fr_trans (Fr_refl _ h) (Fr_mono fs_X9_isWord_21__X9_isWord_20 k))
def S_X9_isWord : CL := []
theorem fs_X9_isWord_21__X9_isWord : ∀ x ∈ S_X9_isWord_21, x ∈ S_X9_isWord := by decide
theorem fs_X9_isWord_20__X9_isWord : ∀ x ∈ S_X9_isWord_20, x ∈ S_X9_isWord := by decide
theorem w_f_X9_isWord (h : HS) (p1 : Int32) : pk (f_X9_isWord h p1) (fun a => Fr S_X9_isWord h a.2) := by
  unfold f_X9_isWord
  refine pk_if (fun _ => ?_) (fun _ => ?_)
  · refine pk_if (fun _ => ?_) (fun _ => ?_)
    · exact pk_mono (w_f_X9_isWord_21 h 1) (fun _ k => Fr_trans (Fr_refl _ h) (Fr_mono fs_X9_isWord_21__X9_isWord k))
    · exact pk_mono (w_f_X9_isWord_20 h) (fun _ k => Fr_trans (Fr_refl _ h) (Fr_mono fs_X9_isWord_20__X9_isWord k))
  · exact pk_mono (w_f_X9_isWord_20 h) (fun _ k => Fr_trans (Fr_refl _ h) (Fr_mono fs_X9_isWord_20__X9_isWord k))
def S_X9_errs_20 : CL := []
theorem w_f_X9_errs_20 (h : HS) : pk (f_X9_errs_20 h) (fun a => Fr S_X9_errs_20 h a) := by
  unfold f_X9_errs_20
  exact pk_some (Fr_refl _ h)
def S_X9_errs : CL := [(0, 0, 19), (0, 0, 20)]
theorem fm_X9_errs_0_0_20 : (0, 0, 20) ∈ S_X9_errs := by decide
theorem fm_X9_errs_0_0_19 : (0, 0, 19) ∈ S_X9_errs := by decide
theorem fs_X9_errs_20__X9_errs : ∀ x ∈ S_X9_errs_20, x ∈ S_X9_errs := by decide
theorem w_f_X9_errs (h : HS) (p1 : Int32) : pk (f_X9_errs h p1) (fun a => Fr S_X9_errs h a) := by
  unfold f_X9_errs
  refine pk_if (fun _ => ?_) (fun _ => ?_)
  · exact pk_mono (w_f_X9_errs_20 (sI (sI h 0 19 p1) 0 20 (eI h 0 16))) (fun _ k => Fr_trans (Fr_sI fm_X9_errs_0_0_20 (Fr_sI fm_X9_errs_0_0_19 (Fr_refl _ h))) (Fr_mono fs_X9_errs_20__X9_errs k))
  · exact pk_mono (w_f_X9_errs_20 h) (fun _ k => Fr_trans (Fr_refl _ h) (Fr_mono fs_X9_errs_20__X9_errs k))
def S_X9_emits : CL := [(0, 0, 36), (1, 0, 37), (1, 0, 38)]
theorem fm_X9_emits_0_0_36 : (0, 0, 36) ∈ S_X9_emits := by decide
theorem fm_X9_emits_1_0_38 : (1, 0, 38) ∈ S_X9_emits := by decide
theorem fm_X9_emits_1_0_37 : (1, 0, 37) ∈ S_X9_emits := by decide
theorem w_f_X9_emits (h : HS) (p1 : Int32) (p2 : Int32) : pk (f_X9_emits h p1 p2) (fun a => Fr S_X9_emits h a) := by
  unfold f_X9_emits
  refine pk_chk (fun _ => ?_)
  refine pk_chk (fun _ => ?_)
  exact pk_some (Fr_sI fm_X9_emits_0_0_36 (Fr_sA fm_X9_emits_1_0_38 (Fr_sA fm_X9_emits_1_0_37 (Fr_refl _ h))))
def S_X9_opensFrame : CL := [(0, 0, 22), (1, 0, 23)]
theorem fm_X9_opensFrame_0_0_22 : (0, 0, 22) ∈ S_X9_opensFrame := by decide
theorem fm_X9_opensFrame_1_0_23 : (1, 0, 23) ∈ S_X9_opensFrame := by decide
theorem w_f_X9_opensFrame (h : HS) (p1 : Int32) : pk (f_X9_opensFrame h p1) (fun a => Fr S_X9_opensFrame h a) := by
  unfold f_X9_opensFrame
  refine pk_chk (fun _ => ?_)
  exact pk_some (Fr_sI fm_X9_opensFrame_0_0_22 (Fr_sA fm_X9_opensFrame_1_0_23 (Fr_refl _ h)))
def S_X9_top : CL := []
theorem w_f_X9_top (h : HS) : pk (f_X9_top h) (fun a => Fr S_X9_top h a.2) := by
  unfold f_X9_top
  refine pk_chk (fun _ => ?_)
  exact pk_some (Fr_refl _ h)
def S_X9_opensSign : CL := [(0, 0, 15), (0, 0, 16), (0, 0, 17), (0, 0, 18), (0, 0, 19), (0, 0, 20), (0, 0, 21), (0, 0, 22), (1, 0, 23)]
theorem fm_X9_opensSign_0_0_21 : (0, 0, 21) ∈ S_X9_opensSign := by decide
theorem fs_X9_errs__X9_opensSign : ∀ x ∈ S_X9_errs, x ∈ S_X9_opensSign := by decide
theorem fs_X9_opensFrame__X9_opensSign : ∀ x ∈ S_X9_opensFrame, x ∈ S_X9_opensSign := by decide
theorem fs_X9_next__X9_opensSign : ∀ x ∈ S_X9_next, x ∈ S_X9_opensSign := by decide
theorem w_f_X9_opensSign (h : HS) (p1 : Int32) : pk (f_X9_opensSign h p1) (fun a => Fr S_X9_opensSign h a.2) := by
  unfold f_X9_opensSign
  refine pk_if (fun _ => ?_) (fun _ => ?_)
  · refine pk_ob1 (w_f_X9_errs h 3) (fun h_4 k_1 => ?_)
    replace k_1 := Fr_trans (Fr_refl _ h) (Fr_mono fs_X9_errs__X9_opensSign k_1)
    exact pk_some k_1
  · refine pk_ob1 (w_f_X9_opensFrame (sI h 0 21 ((eI h 0 21) + 1)) p1) (fun h_2 k_2 => ?_)
    replace k_2 := Fr_trans (Fr_sI fm_X9_opensSign_0_0_21 (Fr_refl _ h)) (Fr_mono fs_X9_opensFrame__X9_opensSign k_2)
    refine pk_ob1 (w_f_X9_next h_2) (fun h_3 k_3 => ?_)
    replace k_3 := Fr_trans k_2 (Fr_mono fs_X9_next__X9_opensSign k_3)
    exact pk_some k_3
def S_X9_works_70 : CL := []
theorem w_f_X9_works_70 (h : HS) : pk (f_X9_works_70 h) (fun a => Fr S_X9_works_70 h a) := by
  unfold f_X9_works_70
  exact pk_some (Fr_refl _ h)
def S_X9_works_0 : CL := [(0, 0, 25), (0, 0, 36), (1, 0, 37), (1, 0, 38)]
theorem fm_X9_works_0_0_0_25 : (0, 0, 25) ∈ S_X9_works_0 := by decide
theorem fs_X9_works_70__X9_works_0 : ∀ x ∈ S_X9_works_70, x ∈ S_X9_works_0 := by decide
theorem fs_X9_emits__X9_works_0 : ∀ x ∈ S_X9_emits, x ∈ S_X9_works_0 := by decide
theorem w_f_X9_works_0  : ∀ (n : Nat) (h : HS) (x1 : Int32), pk (f_X9_works_0  n h x1) (fun a => Fr S_X9_works_0 h a) := by
  intro n
  induction n with
  | zero => intro h x1; exact pk_none
  | succ n ih =>
    intro h x1
    rw [f_X9_works_0_s]
    refine pk_if (fun _ => ?_) (fun _ => ?_)
    · exact pk_mono (w_f_X9_works_70 h) (fun _ k => Fr_trans (Fr_refl _ h) (Fr_mono fs_X9_works_70__X9_works_0 k))
    · refine pk_chk (fun _ => ?_)
      refine pk_if (fun _ => ?_) (fun _ => ?_)
      · refine pk_chk (fun _ => ?_)
        refine pk_obf (fun r_5 => ?_)
        refine pk_if (fun _ => ?_) (fun _ => ?_)
        · exact pk_mono (w_f_X9_works_70 h) (fun _ k => Fr_trans (Fr_refl _ h) (Fr_mono fs_X9_works_70__X9_works_0 k))
        · refine pk_chk (fun _ => ?_)
          refine pk_ob1 (w_f_X9_emits (sI h 0 25 ((eI h 0 25) - 1)) ((eA h 0 26) ((((eI h 0 25) - 1)).toNatClampNeg)) 0) (fun h_8 k_1 => ?_)
          replace k_1 := Fr_trans (Fr_sI fm_X9_works_0_0_0_25 (Fr_refl _ h)) (Fr_mono fs_X9_emits__X9_works_0 k_1)
          exact pk_mono (ih h_8 x1) (fun _ k => Fr_trans k_1 k)
      · exact pk_mono (w_f_X9_works_70 h) (fun _ k => Fr_trans (Fr_refl _ h) (Fr_mono fs_X9_works_70__X9_works_0 k))
def S_X9_works : CL := [(0, 0, 25), (0, 0, 36), (1, 0, 37), (1, 0, 38)]
theorem fs_X9_works_0__X9_works : ∀ x ∈ S_X9_works_0, x ∈ S_X9_works := by decide
theorem w_f_X9_works (h : HS) (p1 : Int32) : pk (f_X9_works h p1) (fun a => Fr S_X9_works h a) := by
  unfold f_X9_works
  exact pk_mono (w_f_X9_works_0 8589934592 h p1) (fun _ k => Fr_trans (Fr_refl _ h) (Fr_mono fs_X9_works_0__X9_works k))
def S_X9_waitsFor : CL := [(0, 0, 15), (0, 0, 16), (0, 0, 17), (0, 0, 18), (0, 0, 25), (0, 0, 36), (1, 0, 26), (1, 0, 27), (1, 0, 37), (1, 0, 38)]
theorem fm_X9_waitsFor_0_0_25 : (0, 0, 25) ∈ S_X9_waitsFor := by decide
theorem fm_X9_waitsFor_1_0_27 : (1, 0, 27) ∈ S_X9_waitsFor := by decide
theorem fm_X9_waitsFor_1_0_26 : (1, 0, 26) ∈ S_X9_waitsFor := by decide
theorem fs_X9_works__X9_waitsFor : ∀ x ∈ S_X9_works, x ∈ S_X9_waitsFor := by decide
theorem fs_X9_next__X9_waitsFor : ∀ x ∈ S_X9_next, x ∈ S_X9_waitsFor := by decide
theorem w_f_X9_waitsFor (h : HS) (p1 : Int32) : pk (f_X9_waitsFor h p1) (fun a => Fr S_X9_waitsFor h a) := by
  unfold f_X9_waitsFor
  refine pk_obf (fun r_1 => ?_)
  refine pk_ob1 (w_f_X9_works h r_1) (fun h_2 k_1 => ?_)
  replace k_1 := Fr_trans (Fr_refl _ h) (Fr_mono fs_X9_works__X9_waitsFor k_1)
  refine pk_chk (fun _ => ?_)
  refine pk_chk (fun _ => ?_)
  refine pk_ob1 (w_f_X9_next (sI (sA (sA h_2 0 26 (upd (eA h_2 0 26) (((eI h_2 0 25)).toNatClampNeg) p1)) 0 27 (upd (eA h_2 0 27) (((eI h_2 0 25)).toNatClampNeg) (eI h_2 0 22))) 0 25 ((eI h_2 0 25) + 1))) (fun h_5 k_2 => ?_)
  replace k_2 := Fr_trans (Fr_sI fm_X9_waitsFor_0_0_25 (Fr_sA fm_X9_waitsFor_1_0_27 (Fr_sA fm_X9_waitsFor_1_0_26 k_1))) (Fr_mono fs_X9_next__X9_waitsFor k_2)
  exact pk_some k_2
def S_X9_asks_28 : CL := []
theorem w_f_X9_asks_28 (h : HS) : pk (f_X9_asks_28 h) (fun a => Fr S_X9_asks_28 h a) := by
  unfold f_X9_asks_28
  exact pk_some (Fr_refl _ h)
def S_X9_asks : CL := [(0, 0, 15), (0, 0, 16), (0, 0, 17), (0, 0, 18), (0, 0, 19), (0, 0, 20), (0, 0, 21), (0, 0, 22), (0, 0, 28), (1, 0, 23)]
theorem fm_X9_asks_0_0_28 : (0, 0, 28) ∈ S_X9_asks := by decide
theorem fs_X9_isWord__X9_asks : ∀ x ∈ S_X9_isWord, x ∈ S_X9_asks := by decide
theorem fs_X9_opensFrame__X9_asks : ∀ x ∈ S_X9_opensFrame, x ∈ S_X9_asks := by decide
theorem fs_X9_asks_28__X9_asks : ∀ x ∈ S_X9_asks_28, x ∈ S_X9_asks := by decide
theorem fs_X9_opensSign__X9_asks : ∀ x ∈ S_X9_opensSign, x ∈ S_X9_asks := by decide
theorem w_f_X9_asks (h : HS) : pk (f_X9_asks h) (fun a => Fr S_X9_asks h a) := by
  unfold f_X9_asks
  refine pk_ob2 (w_f_X9_isWord h 12) (fun r_1 h_1 k_1 => ?_)
  replace k_1 := Fr_trans (Fr_refl _ h) (Fr_mono fs_X9_isWord__X9_asks k_1)
  refine pk_if (fun _ => ?_) (fun _ => ?_)
  · refine pk_ob1 (w_f_X9_opensFrame h_1 4) (fun h_3 k_2 => ?_)
    replace k_2 := Fr_trans k_1 (Fr_mono fs_X9_opensFrame__X9_asks k_2)
    exact pk_mono (w_f_X9_asks_28 (sI h_3 0 28 1)) (fun _ k => Fr_trans (Fr_sI fm_X9_asks_0_0_28 k_2) (Fr_mono fs_X9_asks_28__X9_asks k))
  · refine pk_ob2 (w_f_X9_opensSign h_1 3) (fun r_4 h_4 k_3 => ?_)
    replace k_3 := Fr_trans k_1 (Fr_mono fs_X9_opensSign__X9_asks k_3)
    exact pk_mono (w_f_X9_asks_28 h_4) (fun _ k => Fr_trans k_3 (Fr_mono fs_X9_asks_28__X9_asks k))
def S_X9_oneIsOver_0 : CL := [(0, 0, 21), (0, 0, 22), (0, 0, 28), (0, 0, 36), (1, 0, 37), (1, 0, 38)]
theorem fm_X9_oneIsOver_0_0_0_21 : (0, 0, 21) ∈ S_X9_oneIsOver_0 := by decide
theorem fm_X9_oneIsOver_0_0_0_22 : (0, 0, 22) ∈ S_X9_oneIsOver_0 := by decide
theorem fm_X9_oneIsOver_0_0_0_28 : (0, 0, 28) ∈ S_X9_oneIsOver_0 := by decide
theorem fs_X9_top__X9_oneIsOver_0 : ∀ x ∈ S_X9_top, x ∈ S_X9_oneIsOver_0 := by decide
theorem fs_X9_emits__X9_oneIsOver_0 : ∀ x ∈ S_X9_emits, x ∈ S_X9_oneIsOver_0 := by decide
theorem w_f_X9_oneIsOver_0  : ∀ (n : Nat) (h : HS), pk (f_X9_oneIsOver_0  n h) (fun a => Fr S_X9_oneIsOver_0 h a) := by
  intro n
  induction n with
  | zero => intro h; exact pk_none
  | succ n ih =>
    intro h
    rw [f_X9_oneIsOver_0_s]
    refine pk_ob2 (w_f_X9_top h) (fun r_1 h_1 k_1 => ?_)
    replace k_1 := Fr_trans (Fr_refl _ h) (Fr_mono fs_X9_top__X9_oneIsOver_0 k_1)
    refine pk_if (fun _ => ?_) (fun _ => ?_)
    · refine pk_ob1 (w_f_X9_emits (sI (sI h_1 0 22 ((eI h_1 0 22) - 1)) 0 21 ((eI h_1 0 21) - 1)) 402 0) (fun h_3 k_2 => ?_)
      replace k_2 := Fr_trans (Fr_sI fm_X9_oneIsOver_0_0_0_21 (Fr_sI fm_X9_oneIsOver_0_0_0_22 k_1)) (Fr_mono fs_X9_emits__X9_oneIsOver_0 k_2)
      exact pk_mono (ih h_3) (fun _ k => Fr_trans k_2 k)
    · exact pk_some (Fr_sI fm_X9_oneIsOver_0_0_0_28 k_1)
def S_X9_oneIsOver : CL := [(0, 0, 21), (0, 0, 22), (0, 0, 28), (0, 0, 36), (1, 0, 37), (1, 0, 38)]
theorem fs_X9_oneIsOver_0__X9_oneIsOver : ∀ x ∈ S_X9_oneIsOver_0, x ∈ S_X9_oneIsOver := by decide
theorem w_f_X9_oneIsOver (h : HS) : pk (f_X9_oneIsOver h) (fun a => Fr S_X9_oneIsOver h a) := by
  unfold f_X9_oneIsOver
  exact pk_mono (w_f_X9_oneIsOver_0 8589934592 h) (fun _ k => Fr_trans (Fr_refl _ h) (Fr_mono fs_X9_oneIsOver_0__X9_oneIsOver k))
def S_X9_askIsOver_0 : CL := [(0, 0, 21), (0, 0, 22), (0, 0, 28), (0, 0, 36), (1, 0, 37), (1, 0, 38)]
theorem fm_X9_askIsOver_0_0_0_21 : (0, 0, 21) ∈ S_X9_askIsOver_0 := by decide
theorem fm_X9_askIsOver_0_0_0_22 : (0, 0, 22) ∈ S_X9_askIsOver_0 := by decide
theorem fm_X9_askIsOver_0_0_0_28 : (0, 0, 28) ∈ S_X9_askIsOver_0 := by decide
theorem fs_X9_top__X9_askIsOver_0 : ∀ x ∈ S_X9_top, x ∈ S_X9_askIsOver_0 := by decide
theorem fs_X9_emits__X9_askIsOver_0 : ∀ x ∈ S_X9_emits, x ∈ S_X9_askIsOver_0 := by decide
theorem w_f_X9_askIsOver_0  : ∀ (n : Nat) (h : HS), pk (f_X9_askIsOver_0  n h) (fun a => Fr S_X9_askIsOver_0 h a) := by
  intro n
  induction n with
  | zero => intro h; exact pk_none
  | succ n ih =>
    intro h
    rw [f_X9_askIsOver_0_s]
    refine pk_ob2 (w_f_X9_top h) (fun r_1 h_1 k_1 => ?_)
    replace k_1 := Fr_trans (Fr_refl _ h) (Fr_mono fs_X9_top__X9_askIsOver_0 k_1)
    refine pk_if (fun _ => ?_) (fun _ => ?_)
    · refine pk_ob1 (w_f_X9_emits (sI (sI h_1 0 22 ((eI h_1 0 22) - 1)) 0 21 ((eI h_1 0 21) - 1)) 405 0) (fun h_3 k_2 => ?_)
      replace k_2 := Fr_trans (Fr_sI fm_X9_askIsOver_0_0_0_21 (Fr_sI fm_X9_askIsOver_0_0_0_22 k_1)) (Fr_mono fs_X9_emits__X9_askIsOver_0 k_2)
      exact pk_mono (ih h_3) (fun _ k => Fr_trans k_2 k)
    · exact pk_some (Fr_sI fm_X9_askIsOver_0_0_0_28 k_1)
def S_X9_askIsOver : CL := [(0, 0, 21), (0, 0, 22), (0, 0, 28), (0, 0, 36), (1, 0, 37), (1, 0, 38)]
theorem fs_X9_askIsOver_0__X9_askIsOver : ∀ x ∈ S_X9_askIsOver_0, x ∈ S_X9_askIsOver := by decide
theorem w_f_X9_askIsOver (h : HS) : pk (f_X9_askIsOver h) (fun a => Fr S_X9_askIsOver h a) := by
  unfold f_X9_askIsOver
  exact pk_mono (w_f_X9_askIsOver_0 8589934592 h) (fun _ k => Fr_trans (Fr_refl _ h) (Fr_mono fs_X9_askIsOver_0__X9_askIsOver k))
def S_X9_begins_154 : CL := []
theorem w_f_X9_begins_154 (h : HS) : pk (f_X9_begins_154 h) (fun a => Fr S_X9_begins_154 h a) := by
  unfold f_X9_begins_154
  exact pk_some (Fr_refl _ h)
def S_X9_begins_111 : CL := [(0, 0, 15), (0, 0, 16), (0, 0, 17), (0, 0, 18), (0, 0, 19), (0, 0, 20), (0, 0, 21), (0, 0, 22), (1, 0, 23)]
theorem fs_X9_isSign__X9_begins_111 : ∀ x ∈ S_X9_isSign, x ∈ S_X9_begins_111 := by decide
theorem fs_X9_errs__X9_begins_111 : ∀ x ∈ S_X9_errs, x ∈ S_X9_begins_111 := by decide
theorem fs_X9_begins_154__X9_begins_111 : ∀ x ∈ S_X9_begins_154, x ∈ S_X9_begins_111 := by decide
theorem fs_X9_opensSign__X9_begins_111 : ∀ x ∈ S_X9_opensSign, x ∈ S_X9_begins_111 := by decide
theorem w_f_X9_begins_111 (h : HS) : pk (f_X9_begins_111 h) (fun a => Fr S_X9_begins_111 h a) := by
  unfold f_X9_begins_111
  refine pk_ob2 (w_f_X9_isSign h 40) (fun r_12 h_12 k_1 => ?_)
  replace k_1 := Fr_trans (Fr_refl _ h) (Fr_mono fs_X9_isSign__X9_begins_111 k_1)
  refine pk_if (fun _ => ?_) (fun _ => ?_)
  · refine pk_ob2 (w_f_X9_isSign h_12 45) (fun r_14 h_14 k_2 => ?_)
    replace k_2 := Fr_trans k_1 (Fr_mono fs_X9_isSign__X9_begins_111 k_2)
    refine pk_if (fun _ => ?_) (fun _ => ?_)
    · refine pk_ob1 (w_f_X9_errs h_14 1) (fun h_16 k_3 => ?_)
      replace k_3 := Fr_trans k_2 (Fr_mono fs_X9_errs__X9_begins_111 k_3)
      exact pk_mono (w_f_X9_begins_154 h_16) (fun _ k => Fr_trans k_3 (Fr_mono fs_X9_begins_154__X9_begins_111 k))
    · refine pk_ob2 (w_f_X9_opensSign h_14 7) (fun r_17 h_17 k_4 => ?_)
      replace k_4 := Fr_trans k_2 (Fr_mono fs_X9_opensSign__X9_begins_111 k_4)
      exact pk_mono (w_f_X9_begins_154 h_17) (fun _ k => Fr_trans k_4 (Fr_mono fs_X9_begins_154__X9_begins_111 k))
  · refine pk_ob2 (w_f_X9_opensSign h_12 6) (fun r_18 h_18 k_5 => ?_)
    replace k_5 := Fr_trans k_1 (Fr_mono fs_X9_opensSign__X9_begins_111 k_5)
    exact pk_mono (w_f_X9_begins_154 h_18) (fun _ k => Fr_trans k_5 (Fr_mono fs_X9_begins_154__X9_begins_111 k))
def S_X9_begins_92 : CL := [(0, 0, 15), (0, 0, 16), (0, 0, 17), (0, 0, 18), (0, 0, 21), (0, 0, 22), (0, 0, 28), (0, 0, 36), (1, 0, 37), (1, 0, 38)]
theorem fs_X9_emits__X9_begins_92 : ∀ x ∈ S_X9_emits, x ∈ S_X9_begins_92 := by decide
theorem fs_X9_next__X9_begins_92 : ∀ x ∈ S_X9_next, x ∈ S_X9_begins_92 := by decide
theorem fs_X9_oneIsOver__X9_begins_92 : ∀ x ∈ S_X9_oneIsOver, x ∈ S_X9_begins_92 := by decide
theorem fs_X9_begins_154__X9_begins_92 : ∀ x ∈ S_X9_begins_154, x ∈ S_X9_begins_92 := by decide
theorem w_f_X9_begins_92 (h : HS) (x1 : Int32) : pk (f_X9_begins_92 h x1) (fun a => Fr S_X9_begins_92 h a) := by
  unfold f_X9_begins_92
  refine pk_ob1 (w_f_X9_emits h 401 x1) (fun h_19 k_1 => ?_)
  replace k_1 := Fr_trans (Fr_refl _ h) (Fr_mono fs_X9_emits__X9_begins_92 k_1)
  refine pk_ob1 (w_f_X9_next h_19) (fun h_20 k_2 => ?_)
  replace k_2 := Fr_trans k_1 (Fr_mono fs_X9_next__X9_begins_92 k_2)
  refine pk_ob1 (w_f_X9_oneIsOver h_20) (fun h_21 k_3 => ?_)
  replace k_3 := Fr_trans k_2 (Fr_mono fs_X9_oneIsOver__X9_begins_92 k_3)
  exact pk_mono (w_f_X9_begins_154 h_21) (fun _ k => Fr_trans k_3 (Fr_mono fs_X9_begins_154__X9_begins_92 k))
def S_X9_begins : CL := [(0, 0, 15), (0, 0, 16), (0, 0, 17), (0, 0, 18), (0, 0, 19), (0, 0, 20), (0, 0, 21), (0, 0, 22), (0, 0, 28), (0, 0, 36), (1, 0, 23), (1, 0, 37), (1, 0, 38)]
theorem fs_X9_emits__X9_begins : ∀ x ∈ S_X9_emits, x ∈ S_X9_begins := by decide
theorem fs_X9_next__X9_begins : ∀ x ∈ S_X9_next, x ∈ S_X9_begins := by decide
theorem fs_X9_oneIsOver__X9_begins : ∀ x ∈ S_X9_oneIsOver, x ∈ S_X9_begins := by decide
theorem fs_X9_begins_154__X9_begins : ∀ x ∈ S_X9_begins_154, x ∈ S_X9_begins := by decide
theorem fs_X9_errs__X9_begins : ∀ x ∈ S_X9_errs, x ∈ S_X9_begins := by decide
theorem fs_X9_begins_111__X9_begins : ∀ x ∈ S_X9_begins_111, x ∈ S_X9_begins := by decide
theorem fs_X9_begins_92__X9_begins : ∀ x ∈ S_X9_begins_92, x ∈ S_X9_begins := by decide
theorem w_f_X9_begins (h : HS) : pk (f_X9_begins h) (fun a => Fr S_X9_begins h a) := by
  unfold f_X9_begins
  refine pk_if (fun _ => ?_) (fun _ => ?_)
  · refine pk_if (fun _ => ?_) (fun _ => ?_)
    · refine pk_ob1 (w_f_X9_emits h 400 (eI h 0 18)) (fun h_8 k_1 => ?_)
      replace k_1 := Fr_trans (Fr_refl _ h) (Fr_mono fs_X9_emits__X9_begins k_1)
      refine pk_ob1 (w_f_X9_next h_8) (fun h_9 k_2 => ?_)
      replace k_2 := Fr_trans k_1 (Fr_mono fs_X9_next__X9_begins k_2)
      refine pk_ob1 (w_f_X9_oneIsOver h_9) (fun h_10 k_3 => ?_)
      replace k_3 := Fr_trans k_2 (Fr_mono fs_X9_oneIsOver__X9_begins k_3)
      exact pk_mono (w_f_X9_begins_154 h_10) (fun _ k => Fr_trans k_3 (Fr_mono fs_X9_begins_154__X9_begins k))
    · refine pk_ob1 (w_f_X9_errs h 2) (fun h_11 k_4 => ?_)
      replace k_4 := Fr_trans (Fr_refl _ h) (Fr_mono fs_X9_errs__X9_begins k_4)
      exact pk_some k_4
  · refine pk_if (fun _ => ?_) (fun _ => ?_)
    · refine pk_if (fun _ => ?_) (fun _ => ?_)
      · exact pk_mono (w_f_X9_begins_111 h) (fun _ k => Fr_trans (Fr_refl _ h) (Fr_mono fs_X9_begins_111__X9_begins k))
      · refine pk_if (fun _ => ?_) (fun _ => ?_)
        · exact pk_mono (w_f_X9_begins_92 h (((eI h 0 18) - 12) - 1)) (fun _ k => Fr_trans (Fr_refl _ h) (Fr_mono fs_X9_begins_92__X9_begins k))
        · refine pk_if (fun _ => ?_) (fun _ => ?_)
          · exact pk_mono (w_f_X9_begins_92 h (((eI h 0 18) - 12) - 1)) (fun _ k => Fr_trans (Fr_refl _ h) (Fr_mono fs_X9_begins_92__X9_begins k))
          · refine pk_ob1 (w_f_X9_errs h 5) (fun h_6 k_5 => ?_)
            replace k_5 := Fr_trans (Fr_refl _ h) (Fr_mono fs_X9_errs__X9_begins k_5)
            exact pk_some k_5
    · exact pk_mono (w_f_X9_begins_111 h) (fun _ k => Fr_trans (Fr_refl _ h) (Fr_mono fs_X9_begins_111__X9_begins k))
def S_X9_clauseIsOver : CL := [(0, 0, 15), (0, 0, 16), (0, 0, 17), (0, 0, 18), (0, 0, 22), (0, 0, 25), (0, 0, 28), (0, 0, 29), (0, 0, 36), (1, 0, 37), (1, 0, 38)]
theorem fm_X9_clauseIsOver_0_0_22 : (0, 0, 22) ∈ S_X9_clauseIsOver := by decide
theorem fm_X9_clauseIsOver_0_0_29 : (0, 0, 29) ∈ S_X9_clauseIsOver := by decide
theorem fm_X9_clauseIsOver_0_0_28 : (0, 0, 28) ∈ S_X9_clauseIsOver := by decide
theorem fs_X9_works__X9_clauseIsOver : ∀ x ∈ S_X9_works, x ∈ S_X9_clauseIsOver := by decide
theorem fs_X9_emits__X9_clauseIsOver : ∀ x ∈ S_X9_emits, x ∈ S_X9_clauseIsOver := by decide
theorem fs_X9_next__X9_clauseIsOver : ∀ x ∈ S_X9_next, x ∈ S_X9_clauseIsOver := by decide
theorem w_f_X9_clauseIsOver (h : HS) : pk (f_X9_clauseIsOver h) (fun a => Fr S_X9_clauseIsOver h a) := by
  unfold f_X9_clauseIsOver
  refine pk_ob1 (w_f_X9_works h 1) (fun h_1 k_1 => ?_)
  replace k_1 := Fr_trans (Fr_refl _ h) (Fr_mono fs_X9_works__X9_clauseIsOver k_1)
  refine pk_ob1 (w_f_X9_emits (sI h_1 0 22 0) 408 0) (fun h_2 k_2 => ?_)
  replace k_2 := Fr_trans (Fr_sI fm_X9_clauseIsOver_0_0_22 k_1) (Fr_mono fs_X9_emits__X9_clauseIsOver k_2)
  refine pk_ob1 (w_f_X9_next (sI h_2 0 29 ((eI h_2 0 29) + 1))) (fun h_3 k_3 => ?_)
  replace k_3 := Fr_trans (Fr_sI fm_X9_clauseIsOver_0_0_29 k_2) (Fr_mono fs_X9_next__X9_clauseIsOver k_3)
  exact pk_some (Fr_sI fm_X9_clauseIsOver_0_0_28 k_3)
def S_X9_goesOn_250 : CL := []
theorem w_f_X9_goesOn_250 (h : HS) : pk (f_X9_goesOn_250 h) (fun a => Fr S_X9_goesOn_250 h a) := by
  unfold f_X9_goesOn_250
  exact pk_some (Fr_refl _ h)
def S_X9_goesOn_245 : CL := [(0, 0, 19), (0, 0, 20)]
theorem fs_X9_errs__X9_goesOn_245 : ∀ x ∈ S_X9_errs, x ∈ S_X9_goesOn_245 := by decide
theorem fs_X9_goesOn_250__X9_goesOn_245 : ∀ x ∈ S_X9_goesOn_250, x ∈ S_X9_goesOn_245 := by decide
theorem w_f_X9_goesOn_245 (h : HS) : pk (f_X9_goesOn_245 h) (fun a => Fr S_X9_goesOn_245 h a) := by
  unfold f_X9_goesOn_245
  refine pk_ob1 (w_f_X9_errs h 1) (fun h_31 k_1 => ?_)
  replace k_1 := Fr_trans (Fr_refl _ h) (Fr_mono fs_X9_errs__X9_goesOn_245 k_1)
  exact pk_mono (w_f_X9_goesOn_250 h_31) (fun _ k => Fr_trans k_1 (Fr_mono fs_X9_goesOn_250__X9_goesOn_245 k))
def S_X9_goesOn_181 : CL := [(0, 0, 15), (0, 0, 16), (0, 0, 17), (0, 0, 18), (0, 0, 19), (0, 0, 20), (0, 0, 21), (0, 0, 22), (0, 0, 25), (0, 0, 28), (0, 0, 29), (0, 0, 36), (1, 0, 37), (1, 0, 38)]
theorem fm_X9_goesOn_181_0_0_22 : (0, 0, 22) ∈ S_X9_goesOn_181 := by decide
