def S_X6_stepsEnd_0 : CL := []
theorem fs_X6_stepsEnd_0_18__X6_stepsEnd_0 : ∀ x ∈ S_X6_stepsEnd_0_18, x ∈ S_X6_stepsEnd_0 := by decide
theorem fs_X6_stepsEnd_0_19__X6_stepsEnd_0 : ∀ x ∈ S_X6_stepsEnd_0_19, x ∈ S_X6_stepsEnd_0 := by decide
theorem w_f_X6_stepsEnd_0 (h : HS) (p1 : Int32) : pk (f_X6_stepsEnd_0 h p1) (fun a => Fr S_X6_stepsEnd_0 h a.2) := by
  unfold f_X6_stepsEnd_0
  refine pk_if (fun _ => ?_) (fun _ => ?_)
  · exact pk_mono (w_f_X6_stepsEnd_0_18 h) (fun _ k => Fr_trans (Fr_refl _ h) (Fr_mono fs_X6_stepsEnd_0_18__X6_stepsEnd_0 k))
  · refine pk_if (fun _ => ?_) (fun _ => ?_)
    · exact pk_mono (w_f_X6_stepsEnd_0_18 h) (fun _ k => Fr_trans (Fr_refl _ h) (Fr_mono fs_X6_stepsEnd_0_18__X6_stepsEnd_0 k))
    · refine pk_chk (fun _ => ?_)
      exact pk_mono (w_f_X6_stepsEnd_0_19 h ((eA h 9 4) ((p1).toNatClampNeg))) (fun _ k => Fr_trans (Fr_refl _ h) (Fr_mono fs_X6_stepsEnd_0_19__X6_stepsEnd_0 k))
def S_X6_addStep_0_32 : CL := []
theorem w_f_X6_addStep_0_32 (h : HS) : pk (f_X6_addStep_0_32 h) (fun a => Fr S_X6_addStep_0_32 h a) := by
  unfold f_X6_addStep_0_32
  exact pk_some (Fr_refl _ h)
def S_X6_addStep_0 : CL := [(0, 9, 5), (1, 9, 2)]
theorem fm_X6_addStep_0_0_9_5 : (0, 9, 5) ∈ S_X6_addStep_0 := by decide
theorem fm_X6_addStep_0_1_9_2 : (1, 9, 2) ∈ S_X6_addStep_0 := by decide
theorem fs_X6_addStep_0_32__X6_addStep_0 : ∀ x ∈ S_X6_addStep_0_32, x ∈ S_X6_addStep_0 := by decide
theorem w_f_X6_addStep_0 (h : HS) (p1 : Int32) : pk (f_X6_addStep_0 h p1) (fun a => Fr S_X6_addStep_0 h a) := by
  unfold f_X6_addStep_0
  refine pk_if (fun _ => ?_) (fun _ => ?_)
  · exact pk_mono (w_f_X6_addStep_0_32 h) (fun _ k => Fr_trans (Fr_refl _ h) (Fr_mono fs_X6_addStep_0_32__X6_addStep_0 k))
  · refine pk_chk (fun _ => ?_)
    exact pk_mono (w_f_X6_addStep_0_32 (sI (sA h 9 2 (upd (eA h 9 2) (((eI h 9 5)).toNatClampNeg) p1)) 9 5 ((eI h 9 5) + 1))) (fun _ k => Fr_trans (Fr_sI fm_X6_addStep_0_0_9_5 (Fr_sA fm_X6_addStep_0_1_9_2 (Fr_refl _ h))) (Fr_mono fs_X6_addStep_0_32__X6_addStep_0 k))
def S_X6_stepAt_0_31 : CL := []
theorem w_f_X6_stepAt_0_31 (h : HS) (y0 : Int32) : pk (f_X6_stepAt_0_31 h y0) (fun a => Fr S_X6_stepAt_0_31 h a.2) := by
  unfold f_X6_stepAt_0_31
  exact pk_some (Fr_refl _ h)
def S_X6_stepAt_0_30 : CL := []
theorem fs_X6_stepAt_0_31__X6_stepAt_0_30 : ∀ x ∈ S_X6_stepAt_0_31, x ∈ S_X6_stepAt_0_30 := by decide
theorem w_f_X6_stepAt_0_30 (h : HS) : pk (f_X6_stepAt_0_30 h) (fun a => Fr S_X6_stepAt_0_30 h a.2) := by
  unfold f_X6_stepAt_0_30
  exact pk_mono (w_f_X6_stepAt_0_31 h 0) (fun _ k => Fr_trans (Fr_refl _ h) (Fr_mono fs_X6_stepAt_0_31__X6_stepAt_0_30 k))
def S_X6_stepAt_0 : CL := []
theorem fs_X6_stepAt_0_30__X6_stepAt_0 : ∀ x ∈ S_X6_stepAt_0_30, x ∈ S_X6_stepAt_0 := by decide
theorem fs_X6_stepAt_0_31__X6_stepAt_0 : ∀ x ∈ S_X6_stepAt_0_31, x ∈ S_X6_stepAt_0 := by decide
theorem w_f_X6_stepAt_0 (h : HS) (p1 : Int32) : pk (f_X6_stepAt_0 h p1) (fun a => Fr S_X6_stepAt_0 h a.2) := by
  unfold f_X6_stepAt_0
  refine pk_if (fun _ => ?_) (fun _ => ?_)
  · exact pk_mono (w_f_X6_stepAt_0_30 h) (fun _ k => Fr_trans (Fr_refl _ h) (Fr_mono fs_X6_stepAt_0_30__X6_stepAt_0 k))
  · refine pk_if (fun _ => ?_) (fun _ => ?_)
    · exact pk_mono (w_f_X6_stepAt_0_30 h) (fun _ k => Fr_trans (Fr_refl _ h) (Fr_mono fs_X6_stepAt_0_30__X6_stepAt_0 k))
    · refine pk_if (fun _ => ?_) (fun _ => ?_)
      · exact pk_mono (w_f_X6_stepAt_0_30 h) (fun _ k => Fr_trans (Fr_refl _ h) (Fr_mono fs_X6_stepAt_0_30__X6_stepAt_0 k))
      · refine pk_chk (fun _ => ?_)
        exact pk_mono (w_f_X6_stepAt_0_31 h ((eA h 9 2) ((p1).toNatClampNeg))) (fun _ k => Fr_trans (Fr_refl _ h) (Fr_mono fs_X6_stepAt_0_31__X6_stepAt_0 k))
def S_X6_clauseField_0_19 : CL := []
theorem w_f_X6_clauseField_0_19 (h : HS) : pk (f_X6_clauseField_0_19 h) (fun a => Fr S_X6_clauseField_0_19 h a.2) := by
  unfold f_X6_clauseField_0_19
  exact pk_some (Fr_refl _ h)
def S_X6_clauseField_0 : CL := []
theorem fs_X6_clauseField_0_19__X6_clauseField_0 : ∀ x ∈ S_X6_clauseField_0_19, x ∈ S_X6_clauseField_0 := by decide
theorem w_f_X6_clauseField_0 (h : HS) (p1 : Int32) (p2 : Int32) : pk (f_X6_clauseField_0 h p1 p2) (fun a => Fr S_X6_clauseField_0 h a.2) := by
  unfold f_X6_clauseField_0
  refine pk_if (fun _ => ?_) (fun _ => ?_)
  · exact pk_mono (w_f_X6_clauseField_0_19 h) (fun _ k => Fr_trans (Fr_refl _ h) (Fr_mono fs_X6_clauseField_0_19__X6_clauseField_0 k))
  · refine pk_if (fun _ => ?_) (fun _ => ?_)
    · exact pk_mono (w_f_X6_clauseField_0_19 h) (fun _ k => Fr_trans (Fr_refl _ h) (Fr_mono fs_X6_clauseField_0_19__X6_clauseField_0 k))
    · refine pk_if (fun _ => ?_) (fun _ => ?_)
      · exact pk_mono (w_f_X6_clauseField_0_19 h) (fun _ k => Fr_trans (Fr_refl _ h) (Fr_mono fs_X6_clauseField_0_19__X6_clauseField_0 k))
      · refine pk_if (fun _ => ?_) (fun _ => ?_)
        · refine pk_chk (fun _ => ?_)
          exact pk_some (Fr_refl _ h)
        · exact pk_mono (w_f_X6_clauseField_0_19 h) (fun _ k => Fr_trans (Fr_refl _ h) (Fr_mono fs_X6_clauseField_0_19__X6_clauseField_0 k))
def S_X6_setClause_0_30 : CL := []
theorem w_f_X6_setClause_0_30 (h : HS) : pk (f_X6_setClause_0_30 h) (fun a => Fr S_X6_setClause_0_30 h a) := by
  unfold f_X6_setClause_0_30
  exact pk_some (Fr_refl _ h)
def S_X6_setClause_0 : CL := [(1, 9, 0)]
theorem fm_X6_setClause_0_1_9_0 : (1, 9, 0) ∈ S_X6_setClause_0 := by decide
theorem fs_X6_setClause_0_30__X6_setClause_0 : ∀ x ∈ S_X6_setClause_0_30, x ∈ S_X6_setClause_0 := by decide
theorem w_f_X6_setClause_0 (h : HS) (p1 : Int32) (p2 : Int32) (p3 : Int32) : pk (f_X6_setClause_0 h p1 p2 p3) (fun a => Fr S_X6_setClause_0 h a) := by
  unfold f_X6_setClause_0
  refine pk_if (fun _ => ?_) (fun _ => ?_)
  · exact pk_mono (w_f_X6_setClause_0_30 h) (fun _ k => Fr_trans (Fr_refl _ h) (Fr_mono fs_X6_setClause_0_30__X6_setClause_0 k))
  · refine pk_if (fun _ => ?_) (fun _ => ?_)
    · exact pk_mono (w_f_X6_setClause_0_30 h) (fun _ k => Fr_trans (Fr_refl _ h) (Fr_mono fs_X6_setClause_0_30__X6_setClause_0 k))
    · refine pk_if (fun _ => ?_) (fun _ => ?_)
      · exact pk_mono (w_f_X6_setClause_0_30 h) (fun _ k => Fr_trans (Fr_refl _ h) (Fr_mono fs_X6_setClause_0_30__X6_setClause_0 k))
      · refine pk_if (fun _ => ?_) (fun _ => ?_)
        · exact pk_mono (w_f_X6_setClause_0_30 h) (fun _ k => Fr_trans (Fr_refl _ h) (Fr_mono fs_X6_setClause_0_30__X6_setClause_0 k))
        · refine pk_chk (fun _ => ?_)
          exact pk_mono (w_f_X6_setClause_0_30 (sA h 9 0 (upd (eA h 9 0) ((((p1 * 4) + p2)).toNatClampNeg) p3))) (fun _ k => Fr_trans (Fr_sA fm_X6_setClause_0_1_9_0 (Fr_refl _ h)) (Fr_mono fs_X6_setClause_0_30__X6_setClause_0 k))
def S_X6_clear_1_12 : CL := [(1, 10, 3), (1, 10, 4)]
theorem fm_X6_clear_1_12_1_10_4 : (1, 10, 4) ∈ S_X6_clear_1_12 := by decide
theorem fm_X6_clear_1_12_1_10_3 : (1, 10, 3) ∈ S_X6_clear_1_12 := by decide
theorem w_f_X6_clear_1_12  : ∀ (n : Nat) (h : HS) (x1 : Int32), pk (f_X6_clear_1_12  n h x1) (fun a => Fr S_X6_clear_1_12 h a) := by
  intro n
  induction n with
  | zero => intro h x1; exact pk_none
  | succ n ih =>
    intro h x1
    rw [f_X6_clear_1_12_s]
    refine pk_if (fun _ => ?_) (fun _ => ?_)
    · exact pk_some (Fr_refl _ h)
    · refine pk_chk (fun _ => ?_)
      refine pk_chk (fun _ => ?_)
      exact pk_mono (ih (sA (sA h 10 3 (upd (eA h 10 3) ((x1).toNatClampNeg) (-1))) 10 4 (upd (eA h 10 4) ((x1).toNatClampNeg) (-1))) (x1 + 1)) (fun _ k => Fr_trans (Fr_sA fm_X6_clear_1_12_1_10_4 (Fr_sA fm_X6_clear_1_12_1_10_3 (Fr_refl _ h))) k)
def S_X6_clear_1 : CL := [(0, 10, 1), (0, 10, 5), (1, 10, 3), (1, 10, 4)]
theorem fm_X6_clear_1_0_10_5 : (0, 10, 5) ∈ S_X6_clear_1 := by decide
theorem fm_X6_clear_1_0_10_1 : (0, 10, 1) ∈ S_X6_clear_1 := by decide
theorem fs_X6_clear_1_12__X6_clear_1 : ∀ x ∈ S_X6_clear_1_12, x ∈ S_X6_clear_1 := by decide
theorem w_f_X6_clear_1 (h : HS) : pk (f_X6_clear_1 h) (fun a => Fr S_X6_clear_1 h a) := by
  unfold f_X6_clear_1
  exact pk_mono (w_f_X6_clear_1_12 8589934592 (sI (sI h 10 1 0) 10 5 0) 0) (fun _ k => Fr_trans (Fr_sI fm_X6_clear_1_0_10_5 (Fr_sI fm_X6_clear_1_0_10_1 (Fr_refl _ h))) (Fr_mono fs_X6_clear_1_12__X6_clear_1 k))
def S_X6_hasLaw_1_24 : CL := []
theorem w_f_X6_hasLaw_1_24 (h : HS) (y0 : Int32) : pk (f_X6_hasLaw_1_24 h y0) (fun a => Fr S_X6_hasLaw_1_24 h a.2) := by
  unfold f_X6_hasLaw_1_24
  refine pk_chk (fun _ => ?_)
  exact pk_some (Fr_refl _ h)
def S_X6_hasLaw_1_23 : CL := []
theorem fs_X6_hasLaw_1_24__X6_hasLaw_1_23 : ∀ x ∈ S_X6_hasLaw_1_24, x ∈ S_X6_hasLaw_1_23 := by decide
theorem w_f_X6_hasLaw_1_23 (h : HS) : pk (f_X6_hasLaw_1_23 h) (fun a => Fr S_X6_hasLaw_1_23 h a.2) := by
  unfold f_X6_hasLaw_1_23
  exact pk_mono (w_f_X6_hasLaw_1_24 h 0) (fun _ k => Fr_trans (Fr_refl _ h) (Fr_mono fs_X6_hasLaw_1_24__X6_hasLaw_1_23 k))
def S_X6_hasLaw_1 : CL := []
theorem fs_X6_hasLaw_1_23__X6_hasLaw_1 : ∀ x ∈ S_X6_hasLaw_1_23, x ∈ S_X6_hasLaw_1 := by decide
theorem fs_X6_hasLaw_1_24__X6_hasLaw_1 : ∀ x ∈ S_X6_hasLaw_1_24, x ∈ S_X6_hasLaw_1 := by decide
theorem w_f_X6_hasLaw_1 (h : HS) (p1 : Int32) : pk (f_X6_hasLaw_1 h p1) (fun a => Fr S_X6_hasLaw_1 h a.2) := by
  unfold f_X6_hasLaw_1
  refine pk_if (fun _ => ?_) (fun _ => ?_)
  · exact pk_mono (w_f_X6_hasLaw_1_23 h) (fun _ k => Fr_trans (Fr_refl _ h) (Fr_mono fs_X6_hasLaw_1_23__X6_hasLaw_1 k))
  · refine pk_if (fun _ => ?_) (fun _ => ?_)
    · exact pk_mono (w_f_X6_hasLaw_1_23 h) (fun _ k => Fr_trans (Fr_refl _ h) (Fr_mono fs_X6_hasLaw_1_23__X6_hasLaw_1 k))
    · refine pk_chk (fun _ => ?_)
      refine pk_if (fun _ => ?_) (fun _ => ?_)
      · exact pk_mono (w_f_X6_hasLaw_1_23 h) (fun _ k => Fr_trans (Fr_refl _ h) (Fr_mono fs_X6_hasLaw_1_23__X6_hasLaw_1 k))
      · exact pk_mono (w_f_X6_hasLaw_1_24 h 1) (fun _ k => Fr_trans (Fr_refl _ h) (Fr_mono fs_X6_hasLaw_1_24__X6_hasLaw_1 k))
def S_X6_beginLaw_1_19 : CL := []
theorem w_f_X6_beginLaw_1_19 (h : HS) : pk (f_X6_beginLaw_1_19 h) (fun a => Fr S_X6_beginLaw_1_19 h a) := by
  unfold f_X6_beginLaw_1_19
  exact pk_some (Fr_refl _ h)
def S_X6_beginLaw_1 : CL := [(1, 10, 3)]
theorem fm_X6_beginLaw_1_1_10_3 : (1, 10, 3) ∈ S_X6_beginLaw_1 := by decide
theorem fs_X6_beginLaw_1_19__X6_beginLaw_1 : ∀ x ∈ S_X6_beginLaw_1_19, x ∈ S_X6_beginLaw_1 := by decide
theorem w_f_X6_beginLaw_1 (h : HS) (p1 : Int32) : pk (f_X6_beginLaw_1 h p1) (fun a => Fr S_X6_beginLaw_1 h a) := by
  unfold f_X6_beginLaw_1
  refine pk_if (fun _ => ?_) (fun _ => ?_)
  · exact pk_mono (w_f_X6_beginLaw_1_19 h) (fun _ k => Fr_trans (Fr_refl _ h) (Fr_mono fs_X6_beginLaw_1_19__X6_beginLaw_1 k))
  · refine pk_if (fun _ => ?_) (fun _ => ?_)
    · exact pk_mono (w_f_X6_beginLaw_1_19 h) (fun _ k => Fr_trans (Fr_refl _ h) (Fr_mono fs_X6_beginLaw_1_19__X6_beginLaw_1 k))
    · refine pk_chk (fun _ => ?_)
      exact pk_mono (w_f_X6_beginLaw_1_19 (sA h 10 3 (upd (eA h 10 3) ((p1).toNatClampNeg) (eI h 10 5)))) (fun _ k => Fr_trans (Fr_sA fm_X6_beginLaw_1_1_10_3 (Fr_refl _ h)) (Fr_mono fs_X6_beginLaw_1_19__X6_beginLaw_1 k))
def S_X6_closeLaw_1_19 : CL := []
theorem w_f_X6_closeLaw_1_19 (h : HS) : pk (f_X6_closeLaw_1_19 h) (fun a => Fr S_X6_closeLaw_1_19 h a) := by
  unfold f_X6_closeLaw_1_19
  exact pk_some (Fr_refl _ h)
def S_X6_closeLaw_1 : CL := [(1, 10, 4)]
theorem fm_X6_closeLaw_1_1_10_4 : (1, 10, 4) ∈ S_X6_closeLaw_1 := by decide
theorem fs_X6_closeLaw_1_19__X6_closeLaw_1 : ∀ x ∈ S_X6_closeLaw_1_19, x ∈ S_X6_closeLaw_1 := by decide
theorem w_f_X6_closeLaw_1 (h : HS) (p1 : Int32) : pk (f_X6_closeLaw_1 h p1) (fun a => Fr S_X6_closeLaw_1 h a) := by
  unfold f_X6_closeLaw_1
  refine pk_if (fun _ => ?_) (fun _ => ?_)
  · exact pk_mono (w_f_X6_closeLaw_1_19 h) (fun _ k => Fr_trans (Fr_refl _ h) (Fr_mono fs_X6_closeLaw_1_19__X6_closeLaw_1 k))
  · refine pk_if (fun _ => ?_) (fun _ => ?_)
    · exact pk_mono (w_f_X6_closeLaw_1_19 h) (fun _ k => Fr_trans (Fr_refl _ h) (Fr_mono fs_X6_closeLaw_1_19__X6_closeLaw_1 k))
    · refine pk_chk (fun _ => ?_)
      exact pk_mono (w_f_X6_closeLaw_1_19 (sA h 10 4 (upd (eA h 10 4) ((p1).toNatClampNeg) (eI h 10 5)))) (fun _ k => Fr_trans (Fr_sA fm_X6_closeLaw_1_1_10_4 (Fr_refl _ h)) (Fr_mono fs_X6_closeLaw_1_19__X6_closeLaw_1 k))
def S_X6_firstStep_1_19 : CL := []
theorem w_f_X6_firstStep_1_19 (h : HS) (y0 : Int32) : pk (f_X6_firstStep_1_19 h y0) (fun a => Fr S_X6_firstStep_1_19 h a.2) := by
  unfold f_X6_firstStep_1_19
  exact pk_some (Fr_refl _ h)
def S_X6_firstStep_1_18 : CL := []
theorem fs_X6_firstStep_1_19__X6_firstStep_1_18 : ∀ x ∈ S_X6_firstStep_1_19, x ∈ S_X6_firstStep_1_18 := by decide
theorem w_f_X6_firstStep_1_18 (h : HS) : pk (f_X6_firstStep_1_18 h) (fun a => Fr S_X6_firstStep_1_18 h a.2) := by
  unfold f_X6_firstStep_1_18
  exact pk_mono (w_f_X6_firstStep_1_19 h 0) (fun _ k => Fr_trans (Fr_refl _ h) (Fr_mono fs_X6_firstStep_1_19__X6_firstStep_1_18 k))
def S_X6_firstStep_1 : CL := []
theorem fs_X6_firstStep_1_18__X6_firstStep_1 : ∀ x ∈ S_X6_firstStep_1_18, x ∈ S_X6_firstStep_1 := by decide
theorem fs_X6_firstStep_1_19__X6_firstStep_1 : ∀ x ∈ S_X6_firstStep_1_19, x ∈ S_X6_firstStep_1 := by decide
theorem w_f_X6_firstStep_1 (h : HS) (p1 : Int32) : pk (f_X6_firstStep_1 h p1) (fun a => Fr S_X6_firstStep_1 h a.2) := by
  unfold f_X6_firstStep_1
  refine pk_if (fun _ => ?_) (fun _ => ?_)
  · exact pk_mono (w_f_X6_firstStep_1_18 h) (fun _ k => Fr_trans (Fr_refl _ h) (Fr_mono fs_X6_firstStep_1_18__X6_firstStep_1 k))
  · refine pk_if (fun _ => ?_) (fun _ => ?_)
    · exact pk_mono (w_f_X6_firstStep_1_18 h) (fun _ k => Fr_trans (Fr_refl _ h) (Fr_mono fs_X6_firstStep_1_18__X6_firstStep_1 k))
    · refine pk_chk (fun _ => ?_)
      exact pk_mono (w_f_X6_firstStep_1_19 h ((eA h 10 3) ((p1).toNatClampNeg))) (fun _ k => Fr_trans (Fr_refl _ h) (Fr_mono fs_X6_firstStep_1_19__X6_firstStep_1 k))
def S_X6_stepsEnd_1_19 : CL := []
theorem w_f_X6_stepsEnd_1_19 (h : HS) (y0 : Int32) : pk (f_X6_stepsEnd_1_19 h y0) (fun a => Fr S_X6_stepsEnd_1_19 h a.2) := by
  unfold f_X6_stepsEnd_1_19
  exact pk_some (Fr_refl _ h)
def S_X6_stepsEnd_1_18 : CL := []
theorem fs_X6_stepsEnd_1_19__X6_stepsEnd_1_18 : ∀ x ∈ S_X6_stepsEnd_1_19, x ∈ S_X6_stepsEnd_1_18 := by decide
theorem w_f_X6_stepsEnd_1_18 (h : HS) : pk (f_X6_stepsEnd_1_18 h) (fun a => Fr S_X6_stepsEnd_1_18 h a.2) := by
  unfold f_X6_stepsEnd_1_18
  exact pk_mono (w_f_X6_stepsEnd_1_19 h 0) (fun _ k => Fr_trans (Fr_refl _ h) (Fr_mono fs_X6_stepsEnd_1_19__X6_stepsEnd_1_18 k))
def S_X6_stepsEnd_1 : CL := []
theorem fs_X6_stepsEnd_1_18__X6_stepsEnd_1 : ∀ x ∈ S_X6_stepsEnd_1_18, x ∈ S_X6_stepsEnd_1 := by decide
theorem fs_X6_stepsEnd_1_19__X6_stepsEnd_1 : ∀ x ∈ S_X6_stepsEnd_1_19, x ∈ S_X6_stepsEnd_1 := by decide
theorem w_f_X6_stepsEnd_1 (h : HS) (p1 : Int32) : pk (f_X6_stepsEnd_1 h p1) (fun a => Fr S_X6_stepsEnd_1 h a.2) := by
  unfold f_X6_stepsEnd_1
  refine pk_if (fun _ => ?_) (fun _ => ?_)
  · exact pk_mono (w_f_X6_stepsEnd_1_18 h) (fun _ k => Fr_trans (Fr_refl _ h) (Fr_mono fs_X6_stepsEnd_1_18__X6_stepsEnd_1 k))
  · refine pk_if (fun _ => ?_) (fun _ => ?_)
    · exact pk_mono (w_f_X6_stepsEnd_1_18 h) (fun _ k => Fr_trans (Fr_refl _ h) (Fr_mono fs_X6_stepsEnd_1_18__X6_stepsEnd_1 k))
    · refine pk_chk (fun _ => ?_)
      exact pk_mono (w_f_X6_stepsEnd_1_19 h ((eA h 10 4) ((p1).toNatClampNeg))) (fun _ k => Fr_trans (Fr_refl _ h) (Fr_mono fs_X6_stepsEnd_1_19__X6_stepsEnd_1 k))
def S_X6_addStep_1_32 : CL := []
theorem w_f_X6_addStep_1_32 (h : HS) : pk (f_X6_addStep_1_32 h) (fun a => Fr S_X6_addStep_1_32 h a) := by
  unfold f_X6_addStep_1_32
  exact pk_some (Fr_refl _ h)
def S_X6_addStep_1 : CL := [(0, 10, 5), (1, 10, 2)]
theorem fm_X6_addStep_1_0_10_5 : (0, 10, 5) ∈ S_X6_addStep_1 := by decide
theorem fm_X6_addStep_1_1_10_2 : (1, 10, 2) ∈ S_X6_addStep_1 := by decide
theorem fs_X6_addStep_1_32__X6_addStep_1 : ∀ x ∈ S_X6_addStep_1_32, x ∈ S_X6_addStep_1 := by decide
theorem w_f_X6_addStep_1 (h : HS) (p1 : Int32) : pk (f_X6_addStep_1 h p1) (fun a => Fr S_X6_addStep_1 h a) := by
  unfold f_X6_addStep_1
  refine pk_if (fun _ => ?_) (fun _ => ?_)
  · exact pk_mono (w_f_X6_addStep_1_32 h) (fun _ k => Fr_trans (Fr_refl _ h) (Fr_mono fs_X6_addStep_1_32__X6_addStep_1 k))
  · refine pk_chk (fun _ => ?_)
    exact pk_mono (w_f_X6_addStep_1_32 (sI (sA h 10 2 (upd (eA h 10 2) (((eI h 10 5)).toNatClampNeg) p1)) 10 5 ((eI h 10 5) + 1))) (fun _ k => Fr_trans (Fr_sI fm_X6_addStep_1_0_10_5 (Fr_sA fm_X6_addStep_1_1_10_2 (Fr_refl _ h))) (Fr_mono fs_X6_addStep_1_32__X6_addStep_1 k))
def S_X6_stepAt_1_31 : CL := []
theorem w_f_X6_stepAt_1_31 (h : HS) (y0 : Int32) : pk (f_X6_stepAt_1_31 h y0) (fun a => Fr S_X6_stepAt_1_31 h a.2) := by
  unfold f_X6_stepAt_1_31
  exact pk_some (Fr_refl _ h)
def S_X6_stepAt_1_30 : CL := []
theorem fs_X6_stepAt_1_31__X6_stepAt_1_30 : ∀ x ∈ S_X6_stepAt_1_31, x ∈ S_X6_stepAt_1_30 := by decide
theorem w_f_X6_stepAt_1_30 (h : HS) : pk (f_X6_stepAt_1_30 h) (fun a => Fr S_X6_stepAt_1_30 h a.2) := by
  unfold f_X6_stepAt_1_30
  exact pk_mono (w_f_X6_stepAt_1_31 h 0) (fun _ k => Fr_trans (Fr_refl _ h) (Fr_mono fs_X6_stepAt_1_31__X6_stepAt_1_30 k))
def S_X6_stepAt_1 : CL := []
theorem fs_X6_stepAt_1_30__X6_stepAt_1 : ∀ x ∈ S_X6_stepAt_1_30, x ∈ S_X6_stepAt_1 := by decide
theorem fs_X6_stepAt_1_31__X6_stepAt_1 : ∀ x ∈ S_X6_stepAt_1_31, x ∈ S_X6_stepAt_1 := by decide
theorem w_f_X6_stepAt_1 (h : HS) (p1 : Int32) : pk (f_X6_stepAt_1 h p1) (fun a => Fr S_X6_stepAt_1 h a.2) := by
  unfold f_X6_stepAt_1
  refine pk_if (fun _ => ?_) (fun _ => ?_)
  · exact pk_mono (w_f_X6_stepAt_1_30 h) (fun _ k => Fr_trans (Fr_refl _ h) (Fr_mono fs_X6_stepAt_1_30__X6_stepAt_1 k))
  · refine pk_if (fun _ => ?_) (fun _ => ?_)
    · exact pk_mono (w_f_X6_stepAt_1_30 h) (fun _ k => Fr_trans (Fr_refl _ h) (Fr_mono fs_X6_stepAt_1_30__X6_stepAt_1 k))
    · refine pk_if (fun _ => ?_) (fun _ => ?_)
      · exact pk_mono (w_f_X6_stepAt_1_30 h) (fun _ k => Fr_trans (Fr_refl _ h) (Fr_mono fs_X6_stepAt_1_30__X6_stepAt_1 k))
      · refine pk_chk (fun _ => ?_)
        exact pk_mono (w_f_X6_stepAt_1_31 h ((eA h 10 2) ((p1).toNatClampNeg))) (fun _ k => Fr_trans (Fr_refl _ h) (Fr_mono fs_X6_stepAt_1_31__X6_stepAt_1 k))
def S_X6_clauseField_1_19 : CL := []
theorem w_f_X6_clauseField_1_19 (h : HS) : pk (f_X6_clauseField_1_19 h) (fun a => Fr S_X6_clauseField_1_19 h a.2) := by
  unfold f_X6_clauseField_1_19
  exact pk_some (Fr_refl _ h)
def S_X6_clauseField_1 : CL := []
theorem fs_X6_clauseField_1_19__X6_clauseField_1 : ∀ x ∈ S_X6_clauseField_1_19, x ∈ S_X6_clauseField_1 := by decide
theorem w_f_X6_clauseField_1 (h : HS) (p1 : Int32) (p2 : Int32) : pk (f_X6_clauseField_1 h p1 p2) (fun a => Fr S_X6_clauseField_1 h a.2) := by
  unfold f_X6_clauseField_1
  refine pk_if (fun _ => ?_) (fun _ => ?_)
  · exact pk_mono (w_f_X6_clauseField_1_19 h) (fun _ k => Fr_trans (Fr_refl _ h) (Fr_mono fs_X6_clauseField_1_19__X6_clauseField_1 k))
  · refine pk_if (fun _ => ?_) (fun _ => ?_)
    · exact pk_mono (w_f_X6_clauseField_1_19 h) (fun _ k => Fr_trans (Fr_refl _ h) (Fr_mono fs_X6_clauseField_1_19__X6_clauseField_1 k))
    · refine pk_if (fun _ => ?_) (fun _ => ?_)
      · exact pk_mono (w_f_X6_clauseField_1_19 h) (fun _ k => Fr_trans (Fr_refl _ h) (Fr_mono fs_X6_clauseField_1_19__X6_clauseField_1 k))
      · refine pk_if (fun _ => ?_) (fun _ => ?_)
        · refine pk_chk (fun _ => ?_)
          exact pk_some (Fr_refl _ h)
        · exact pk_mono (w_f_X6_clauseField_1_19 h) (fun _ k => Fr_trans (Fr_refl _ h) (Fr_mono fs_X6_clauseField_1_19__X6_clauseField_1 k))
def S_X6_setClause_1_30 : CL := []
theorem w_f_X6_setClause_1_30 (h : HS) : pk (f_X6_setClause_1_30 h) (fun a => Fr S_X6_setClause_1_30 h a) := by
  unfold f_X6_setClause_1_30
  exact pk_some (Fr_refl _ h)
def S_X6_setClause_1 : CL := [(1, 10, 0)]
theorem fm_X6_setClause_1_1_10_0 : (1, 10, 0) ∈ S_X6_setClause_1 := by decide
theorem fs_X6_setClause_1_30__X6_setClause_1 : ∀ x ∈ S_X6_setClause_1_30, x ∈ S_X6_setClause_1 := by decide
theorem w_f_X6_setClause_1 (h : HS) (p1 : Int32) (p2 : Int32) (p3 : Int32) : pk (f_X6_setClause_1 h p1 p2 p3) (fun a => Fr S_X6_setClause_1 h a) := by
  unfold f_X6_setClause_1
  refine pk_if (fun _ => ?_) (fun _ => ?_)
  · exact pk_mono (w_f_X6_setClause_1_30 h) (fun _ k => Fr_trans (Fr_refl _ h) (Fr_mono fs_X6_setClause_1_30__X6_setClause_1 k))
  · refine pk_if (fun _ => ?_) (fun _ => ?_)
    · exact pk_mono (w_f_X6_setClause_1_30 h) (fun _ k => Fr_trans (Fr_refl _ h) (Fr_mono fs_X6_setClause_1_30__X6_setClause_1 k))
    · refine pk_if (fun _ => ?_) (fun _ => ?_)
      · exact pk_mono (w_f_X6_setClause_1_30 h) (fun _ k => Fr_trans (Fr_refl _ h) (Fr_mono fs_X6_setClause_1_30__X6_setClause_1 k))
      · refine pk_if (fun _ => ?_) (fun _ => ?_)
        · exact pk_mono (w_f_X6_setClause_1_30 h) (fun _ k => Fr_trans (Fr_refl _ h) (Fr_mono fs_X6_setClause_1_30__X6_setClause_1 k))
        · refine pk_chk (fun _ => ?_)
          exact pk_mono (w_f_X6_setClause_1_30 (sA h 10 0 (upd (eA h 10 0) ((((p1 * 4) + p2)).toNatClampNeg) p3))) (fun _ k => Fr_trans (Fr_sA fm_X6_setClause_1_1_10_0 (Fr_refl _ h)) (Fr_mono fs_X6_setClause_1_30__X6_setClause_1 k))
def S_X6_clear_2_12 : CL := [(1, 11, 3), (1, 11, 4)]
theorem fm_X6_clear_2_12_1_11_4 : (1, 11, 4) ∈ S_X6_clear_2_12 := by decide
theorem fm_X6_clear_2_12_1_11_3 : (1, 11, 3) ∈ S_X6_clear_2_12 := by decide
theorem w_f_X6_clear_2_12  : ∀ (n : Nat) (h : HS) (x1 : Int32), pk (f_X6_clear_2_12  n h x1) (fun a => Fr S_X6_clear_2_12 h a) := by
  intro n
  induction n with
  | zero => intro h x1; exact pk_none
  | succ n ih =>
    intro h x1
    rw [f_X6_clear_2_12_s]
    refine pk_if (fun _ => ?_) (fun _ => ?_)
    · exact pk_some (Fr_refl _ h)
    · refine pk_chk (fun _ => ?_)
      refine pk_chk (fun _ => ?_)
      exact pk_mono (ih (sA (sA h 11 3 (upd (eA h 11 3) ((x1).toNatClampNeg) (-1))) 11 4 (upd (eA h 11 4) ((x1).toNatClampNeg) (-1))) (x1 + 1)) (fun _ k => Fr_trans (Fr_sA fm_X6_clear_2_12_1_11_4 (Fr_sA fm_X6_clear_2_12_1_11_3 (Fr_refl _ h))) k)
def S_X6_clear_2 : CL := [(0, 11, 1), (0, 11, 5), (1, 11, 3), (1, 11, 4)]
theorem fm_X6_clear_2_0_11_5 : (0, 11, 5) ∈ S_X6_clear_2 := by decide
theorem fm_X6_clear_2_0_11_1 : (0, 11, 1) ∈ S_X6_clear_2 := by decide
theorem fs_X6_clear_2_12__X6_clear_2 : ∀ x ∈ S_X6_clear_2_12, x ∈ S_X6_clear_2 := by decide
theorem w_f_X6_clear_2 (h : HS) : pk (f_X6_clear_2 h) (fun a => Fr S_X6_clear_2 h a) := by
  unfold f_X6_clear_2
  exact pk_mono (w_f_X6_clear_2_12 8589934592 (sI (sI h 11 1 0) 11 5 0) 0) (fun _ k => Fr_trans (Fr_sI fm_X6_clear_2_0_11_5 (Fr_sI fm_X6_clear_2_0_11_1 (Fr_refl _ h))) (Fr_mono fs_X6_clear_2_12__X6_clear_2 k))
def S_X6_hasLaw_2_24 : CL := []
theorem w_f_X6_hasLaw_2_24 (h : HS) (y0 : Int32) : pk (f_X6_hasLaw_2_24 h y0) (fun a => Fr S_X6_hasLaw_2_24 h a.2) := by
  unfold f_X6_hasLaw_2_24
  refine pk_chk (fun _ => ?_)
  exact pk_some (Fr_refl _ h)
def S_X6_hasLaw_2_23 : CL := []
theorem fs_X6_hasLaw_2_24__X6_hasLaw_2_23 : ∀ x ∈ S_X6_hasLaw_2_24, x ∈ S_X6_hasLaw_2_23 := by decide
theorem w_f_X6_hasLaw_2_23 (h : HS) : pk (f_X6_hasLaw_2_23 h) (fun a => Fr S_X6_hasLaw_2_23 h a.2) := by
  unfold f_X6_hasLaw_2_23
  exact pk_mono (w_f_X6_hasLaw_2_24 h 0) (fun _ k => Fr_trans (Fr_refl _ h) (Fr_mono fs_X6_hasLaw_2_24__X6_hasLaw_2_23 k))
def S_X6_hasLaw_2 : CL := []
theorem fs_X6_hasLaw_2_23__X6_hasLaw_2 : ∀ x ∈ S_X6_hasLaw_2_23, x ∈ S_X6_hasLaw_2 := by decide
theorem fs_X6_hasLaw_2_24__X6_hasLaw_2 : ∀ x ∈ S_X6_hasLaw_2_24, x ∈ S_X6_hasLaw_2 := by decide
theorem w_f_X6_hasLaw_2 (h : HS) (p1 : Int32) : pk (f_X6_hasLaw_2 h p1) (fun a => Fr S_X6_hasLaw_2 h a.2) := by
  unfold f_X6_hasLaw_2
  refine pk_if (fun _ => ?_) (fun _ => ?_)
  · exact pk_mono (w_f_X6_hasLaw_2_23 h) (fun _ k => Fr_trans (Fr_refl _ h) (Fr_mono fs_X6_hasLaw_2_23__X6_hasLaw_2 k))
  · refine pk_if (fun _ => ?_) (fun _ => ?_)
    · exact pk_mono (w_f_X6_hasLaw_2_23 h) (fun _ k => Fr_trans (Fr_refl _ h) (Fr_mono fs_X6_hasLaw_2_23__X6_hasLaw_2 k))
    · refine pk_chk (fun _ => ?_)
      refine pk_if (fun _ => ?_) (fun _ => ?_)
      · exact pk_mono (w_f_X6_hasLaw_2_23 h) (fun _ k => Fr_trans (Fr_refl _ h) (Fr_mono fs_X6_hasLaw_2_23__X6_hasLaw_2 k))
      · exact pk_mono (w_f_X6_hasLaw_2_24 h 1) (fun _ k => Fr_trans (Fr_refl _ h) (Fr_mono fs_X6_hasLaw_2_24__X6_hasLaw_2 k))
def S_X6_beginLaw_2_19 : CL := []
theorem w_f_X6_beginLaw_2_19 (h : HS) : pk (f_X6_beginLaw_2_19 h) (fun a => Fr S_X6_beginLaw_2_19 h a) := by
  unfold f_X6_beginLaw_2_19
  exact pk_some (Fr_refl _ h)
def S_X6_beginLaw_2 : CL := [(1, 11, 3)]
theorem fm_X6_beginLaw_2_1_11_3 : (1, 11, 3) ∈ S_X6_beginLaw_2 := by decide
theorem fs_X6_beginLaw_2_19__X6_beginLaw_2 : ∀ x ∈ S_X6_beginLaw_2_19, x ∈ S_X6_beginLaw_2 := by decide
theorem w_f_X6_beginLaw_2 (h : HS) (p1 : Int32) : pk (f_X6_beginLaw_2 h p1) (fun a => Fr S_X6_beginLaw_2 h a) := by
  unfold f_X6_beginLaw_2
  refine pk_if (fun _ => ?_) (fun _ => ?_)
  · exact pk_mono (w_f_X6_beginLaw_2_19 h) (fun _ k => Fr_trans (Fr_refl _ h) (Fr_mono fs_X6_beginLaw_2_19__X6_beginLaw_2 k))
  · refine pk_if (fun _ => ?_) (fun _ => ?_)
    · exact pk_mono (w_f_X6_beginLaw_2_19 h) (fun _ k => Fr_trans (Fr_refl _ h) (Fr_mono fs_X6_beginLaw_2_19__X6_beginLaw_2 k))
    · refine pk_chk (fun _ => ?_)
      exact pk_mono (w_f_X6_beginLaw_2_19 (sA h 11 3 (upd (eA h 11 3) ((p1).toNatClampNeg) (eI h 11 5)))) (fun _ k => Fr_trans (Fr_sA fm_X6_beginLaw_2_1_11_3 (Fr_refl _ h)) (Fr_mono fs_X6_beginLaw_2_19__X6_beginLaw_2 k))
def S_X6_closeLaw_2_19 : CL := []
theorem w_f_X6_closeLaw_2_19 (h : HS) : pk (f_X6_closeLaw_2_19 h) (fun a => Fr S_X6_closeLaw_2_19 h a) := by
  unfold f_X6_closeLaw_2_19
  exact pk_some (Fr_refl _ h)
def S_X6_closeLaw_2 : CL := [(1, 11, 4)]
theorem fm_X6_closeLaw_2_1_11_4 : (1, 11, 4) ∈ S_X6_closeLaw_2 := by decide
theorem fs_X6_closeLaw_2_19__X6_closeLaw_2 : ∀ x ∈ S_X6_closeLaw_2_19, x ∈ S_X6_closeLaw_2 := by decide
theorem w_f_X6_closeLaw_2 (h : HS) (p1 : Int32) : pk (f_X6_closeLaw_2 h p1) (fun a => Fr S_X6_closeLaw_2 h a) := by
  unfold f_X6_closeLaw_2
  refine pk_if (fun _ => ?_) (fun _ => ?_)
  · exact pk_mono (w_f_X6_closeLaw_2_19 h) (fun _ k => Fr_trans (Fr_refl _ h) (Fr_mono fs_X6_closeLaw_2_19__X6_closeLaw_2 k))
  · refine pk_if (fun _ => ?_) (fun _ => ?_)
    · exact pk_mono (w_f_X6_closeLaw_2_19 h) (fun _ k => Fr_trans (Fr_refl _ h) (Fr_mono fs_X6_closeLaw_2_19__X6_closeLaw_2 k))
    · refine pk_chk (fun _ => ?_)
      exact pk_mono (w_f_X6_closeLaw_2_19 (sA h 11 4 (upd (eA h 11 4) ((p1).toNatClampNeg) (eI h 11 5)))) (fun _ k => Fr_trans (Fr_sA fm_X6_closeLaw_2_1_11_4 (Fr_refl _ h)) (Fr_mono fs_X6_closeLaw_2_19__X6_closeLaw_2 k))
def S_X6_firstStep_2_19 : CL := []
theorem w_f_X6_firstStep_2_19 (h : HS) (y0 : Int32) : pk (f_X6_firstStep_2_19 h y0) (fun a => Fr S_X6_firstStep_2_19 h a.2) := by
  unfold f_X6_firstStep_2_19
  exact pk_some (Fr_refl _ h)
def S_X6_firstStep_2_18 : CL := []
theorem fs_X6_firstStep_2_19__X6_firstStep_2_18 : ∀ x ∈ S_X6_firstStep_2_19, x ∈ S_X6_firstStep_2_18 := by decide
theorem w_f_X6_firstStep_2_18 (h : HS) : pk (f_X6_firstStep_2_18 h) (fun a => Fr S_X6_firstStep_2_18 h a.2) := by
  unfold f_X6_firstStep_2_18
  exact pk_mono (w_f_X6_firstStep_2_19 h 0) (fun _ k => Fr_trans (Fr_refl _ h) (Fr_mono fs_X6_firstStep_2_19__X6_firstStep_2_18 k))
def S_X6_firstStep_2 : CL := []
theorem fs_X6_firstStep_2_18__X6_firstStep_2 : ∀ x ∈ S_X6_firstStep_2_18, x ∈ S_X6_firstStep_2 := by decide
theorem fs_X6_firstStep_2_19__X6_firstStep_2 : ∀ x ∈ S_X6_firstStep_2_19, x ∈ S_X6_firstStep_2 := by decide
theorem w_f_X6_firstStep_2 (h : HS) (p1 : Int32) : pk (f_X6_firstStep_2 h p1) (fun a => Fr S_X6_firstStep_2 h a.2) := by
  unfold f_X6_firstStep_2
  refine pk_if (fun _ => ?_) (fun _ => ?_)
  · exact pk_mono (w_f_X6_firstStep_2_18 h) (fun _ k => Fr_trans (Fr_refl _ h) (Fr_mono fs_X6_firstStep_2_18__X6_firstStep_2 k))
  · refine pk_if (fun _ => ?_) (fun _ => ?_)
    · exact pk_mono (w_f_X6_firstStep_2_18 h) (fun _ k => Fr_trans (Fr_refl _ h) (Fr_mono fs_X6_firstStep_2_18__X6_firstStep_2 k))
    · refine pk_chk (fun _ => ?_)
      exact pk_mono (w_f_X6_firstStep_2_19 h ((eA h 11 3) ((p1).toNatClampNeg))) (fun _ k => Fr_trans (Fr_refl _ h) (Fr_mono fs_X6_firstStep_2_19__X6_firstStep_2 k))
def S_X6_stepsEnd_2_19 : CL := []
theorem w_f_X6_stepsEnd_2_19 (h : HS) (y0 : Int32) : pk (f_X6_stepsEnd_2_19 h y0) (fun a => Fr S_X6_stepsEnd_2_19 h a.2) := by
  unfold f_X6_stepsEnd_2_19
  exact pk_some (Fr_refl _ h)
def S_X6_stepsEnd_2_18 : CL := []
theorem fs_X6_stepsEnd_2_19__X6_stepsEnd_2_18 : ∀ x ∈ S_X6_stepsEnd_2_19, x ∈ S_X6_stepsEnd_2_18 := by decide
theorem w_f_X6_stepsEnd_2_18 (h : HS) : pk (f_X6_stepsEnd_2_18 h) (fun a => Fr S_X6_stepsEnd_2_18 h a.2) := by
  unfold f_X6_stepsEnd_2_18
  exact pk_mono (w_f_X6_stepsEnd_2_19 h 0) (fun _ k => Fr_trans (Fr_refl _ h) (Fr_mono fs_X6_stepsEnd_2_19__X6_stepsEnd_2_18 k))
def S_X6_stepsEnd_2 : CL := []
theorem fs_X6_stepsEnd_2_18__X6_stepsEnd_2 : ∀ x ∈ S_X6_stepsEnd_2_18, x ∈ S_X6_stepsEnd_2 := by decide
theorem fs_X6_stepsEnd_2_19__X6_stepsEnd_2 : ∀ x ∈ S_X6_stepsEnd_2_19, x ∈ S_X6_stepsEnd_2 := by decide
theorem w_f_X6_stepsEnd_2 (h : HS) (p1 : Int32) : pk (f_X6_stepsEnd_2 h p1) (fun a => Fr S_X6_stepsEnd_2 h a.2) := by
  unfold f_X6_stepsEnd_2
  refine pk_if (fun _ => ?_) (fun _ => ?_)
  · exact pk_mono (w_f_X6_stepsEnd_2_18 h) (fun _ k => Fr_trans (Fr_refl _ h) (Fr_mono fs_X6_stepsEnd_2_18__X6_stepsEnd_2 k))
  · refine pk_if (fun _ => ?_) (fun _ => ?_)
    · exact pk_mono (w_f_X6_stepsEnd_2_18 h) (fun _ k => Fr_trans (Fr_refl _ h) (Fr_mono fs_X6_stepsEnd_2_18__X6_stepsEnd_2 k))
    · refine pk_chk (fun _ => ?_)
      exact pk_mono (w_f_X6_stepsEnd_2_19 h ((eA h 11 4) ((p1).toNatClampNeg))) (fun _ k => Fr_trans (Fr_refl _ h) (Fr_mono fs_X6_stepsEnd_2_19__X6_stepsEnd_2 k))
def S_X6_addStep_2_32 : CL := []
theorem w_f_X6_addStep_2_32 (h : HS) : pk (f_X6_addStep_2_32 h) (fun a => Fr S_X6_addStep_2_32 h a) := by
  unfold f_X6_addStep_2_32
  exact pk_some (Fr_refl _ h)
def S_X6_addStep_2 : CL := [(0, 11, 5), (1, 11, 2)]
theorem fm_X6_addStep_2_0_11_5 : (0, 11, 5) ∈ S_X6_addStep_2 := by decide
theorem fm_X6_addStep_2_1_11_2 : (1, 11, 2) ∈ S_X6_addStep_2 := by decide
theorem fs_X6_addStep_2_32__X6_addStep_2 : ∀ x ∈ S_X6_addStep_2_32, x ∈ S_X6_addStep_2 := by decide
theorem w_f_X6_addStep_2 (h : HS) (p1 : Int32) : pk (f_X6_addStep_2 h p1) (fun a => Fr S_X6_addStep_2 h a) := by
  unfold f_X6_addStep_2
  refine pk_if (fun _ => ?_) (fun _ => ?_)
  · exact pk_mono (w_f_X6_addStep_2_32 h) (fun _ k => Fr_trans (Fr_refl _ h) (Fr_mono fs_X6_addStep_2_32__X6_addStep_2 k))
  · refine pk_chk (fun _ => ?_)
    exact pk_mono (w_f_X6_addStep_2_32 (sI (sA h 11 2 (upd (eA h 11 2) (((eI h 11 5)).toNatClampNeg) p1)) 11 5 ((eI h 11 5) + 1))) (fun _ k => Fr_trans (Fr_sI fm_X6_addStep_2_0_11_5 (Fr_sA fm_X6_addStep_2_1_11_2 (Fr_refl _ h))) (Fr_mono fs_X6_addStep_2_32__X6_addStep_2 k))
def S_X6_stepAt_2_31 : CL := []
theorem w_f_X6_stepAt_2_31 (h : HS) (y0 : Int32) : pk (f_X6_stepAt_2_31 h y0) (fun a => Fr S_X6_stepAt_2_31 h a.2) := by
  unfold f_X6_stepAt_2_31
  exact pk_some (Fr_refl _ h)
def S_X6_stepAt_2_30 : CL := []
theorem fs_X6_stepAt_2_31__X6_stepAt_2_30 : ∀ x ∈ S_X6_stepAt_2_31, x ∈ S_X6_stepAt_2_30 := by decide
theorem w_f_X6_stepAt_2_30 (h : HS) : pk (f_X6_stepAt_2_30 h) (fun a => Fr S_X6_stepAt_2_30 h a.2) := by
  unfold f_X6_stepAt_2_30
  exact pk_mono (w_f_X6_stepAt_2_31 h 0) (fun _ k => Fr_trans (Fr_refl _ h) (Fr_mono fs_X6_stepAt_2_31__X6_stepAt_2_30 k))
def S_X6_stepAt_2 : CL := []
theorem fs_X6_stepAt_2_30__X6_stepAt_2 : ∀ x ∈ S_X6_stepAt_2_30, x ∈ S_X6_stepAt_2 := by decide
theorem fs_X6_stepAt_2_31__X6_stepAt_2 : ∀ x ∈ S_X6_stepAt_2_31, x ∈ S_X6_stepAt_2 := by decide
theorem w_f_X6_stepAt_2 (h : HS) (p1 : Int32) : pk (f_X6_stepAt_2 h p1) (fun a => Fr S_X6_stepAt_2 h a.2) := by
  unfold f_X6_stepAt_2
  refine pk_if (fun _ => ?_) (fun _ => ?_)
  · exact pk_mono (w_f_X6_stepAt_2_30 h) (fun _ k => Fr_trans (Fr_refl _ h) (Fr_mono fs_X6_stepAt_2_30__X6_stepAt_2 k))
  · refine pk_if (fun _ => ?_) (fun _ => ?_)
    · exact pk_mono (w_f_X6_stepAt_2_30 h) (fun _ k => Fr_trans (Fr_refl _ h) (Fr_mono fs_X6_stepAt_2_30__X6_stepAt_2 k))
    · refine pk_if (fun _ => ?_) (fun _ => ?_)
      · exact pk_mono (w_f_X6_stepAt_2_30 h) (fun _ k => Fr_trans (Fr_refl _ h) (Fr_mono fs_X6_stepAt_2_30__X6_stepAt_2 k))
      · refine pk_chk (fun _ => ?_)
        exact pk_mono (w_f_X6_stepAt_2_31 h ((eA h 11 2) ((p1).toNatClampNeg))) (fun _ k => Fr_trans (Fr_refl _ h) (Fr_mono fs_X6_stepAt_2_31__X6_stepAt_2 k))
def S_X6_clauseField_2_19 : CL := []
theorem w_f_X6_clauseField_2_19 (h : HS) : pk (f_X6_clauseField_2_19 h) (fun a => Fr S_X6_clauseField_2_19 h a.2) := by
  unfold f_X6_clauseField_2_19
  exact pk_some (Fr_refl _ h)
def S_X6_clauseField_2 : CL := []
theorem fs_X6_clauseField_2_19__X6_clauseField_2 : ∀ x ∈ S_X6_clauseField_2_19, x ∈ S_X6_clauseField_2 := by decide
theorem w_f_X6_clauseField_2 (h : HS) (p1 : Int32) (p2 : Int32) : pk (f_X6_clauseField_2 h p1 p2) (fun a => Fr S_X6_clauseField_2 h a.2) := by
  unfold f_X6_clauseField_2
  refine pk_if (fun _ => ?_) (fun _ => ?_)
  · exact pk_mono (w_f_X6_clauseField_2_19 h) (fun _ k => Fr_trans (Fr_refl _ h) (Fr_mono fs_X6_clauseField_2_19__X6_clauseField_2 k))
  · refine pk_if (fun _ => ?_) (fun _ => ?_)
    · exact pk_mono (w_f_X6_clauseField_2_19 h) (fun _ k => Fr_trans (Fr_refl _ h) (Fr_mono fs_X6_clauseField_2_19__X6_clauseField_2 k))
    · refine pk_if (fun _ => ?_) (fun _ => ?_)
      · exact pk_mono (w_f_X6_clauseField_2_19 h) (fun _ k => Fr_trans (Fr_refl _ h) (Fr_mono fs_X6_clauseField_2_19__X6_clauseField_2 k))
      · refine pk_if (fun _ => ?_) (fun _ => ?_)
        · refine pk_chk (fun _ => ?_)
          exact pk_some (Fr_refl _ h)
        · exact pk_mono (w_f_X6_clauseField_2_19 h) (fun _ k => Fr_trans (Fr_refl _ h) (Fr_mono fs_X6_clauseField_2_19__X6_clauseField_2 k))
def S_X6_setClause_2_30 : CL := []
theorem w_f_X6_setClause_2_30 (h : HS) : pk (f_X6_setClause_2_30 h) (fun a => Fr S_X6_setClause_2_30 h a) := by
  unfold f_X6_setClause_2_30
  exact pk_some (Fr_refl _ h)
def S_X6_setClause_2 : CL := [(1, 11, 0)]
theorem fm_X6_setClause_2_1_11_0 : (1, 11, 0) ∈ S_X6_setClause_2 := by decide
theorem fs_X6_setClause_2_30__X6_setClause_2 : ∀ x ∈ S_X6_setClause_2_30, x ∈ S_X6_setClause_2 := by decide
theorem w_f_X6_setClause_2 (h : HS) (p1 : Int32) (p2 : Int32) (p3 : Int32) : pk (f_X6_setClause_2 h p1 p2 p3) (fun a => Fr S_X6_setClause_2 h a) := by
  unfold f_X6_setClause_2
  refine pk_if (fun _ => ?_) (fun _ => ?_)
  · exact pk_mono (w_f_X6_setClause_2_30 h) (fun _ k => Fr_trans (Fr_refl _ h) (Fr_mono fs_X6_setClause_2_30__X6_setClause_2 k))
  · refine pk_if (fun _ => ?_) (fun _ => ?_)
    · exact pk_mono (w_f_X6_setClause_2_30 h) (fun _ k => Fr_trans (Fr_refl _ h) (Fr_mono fs_X6_setClause_2_30__X6_setClause_2 k))
    · refine pk_if (fun _ => ?_) (fun _ => ?_)
      · exact pk_mono (w_f_X6_setClause_2_30 h) (fun _ k => Fr_trans (Fr_refl _ h) (Fr_mono fs_X6_setClause_2_30__X6_setClause_2 k))
      · refine pk_if (fun _ => ?_) (fun _ => ?_)
        · exact pk_mono (w_f_X6_setClause_2_30 h) (fun _ k => Fr_trans (Fr_refl _ h) (Fr_mono fs_X6_setClause_2_30__X6_setClause_2 k))
        · refine pk_chk (fun _ => ?_)
          exact pk_mono (w_f_X6_setClause_2_30 (sA h 11 0 (upd (eA h 11 0) ((((p1 * 4) + p2)).toNatClampNeg) p3))) (fun _ k => Fr_trans (Fr_sA fm_X6_setClause_2_1_11_0 (Fr_refl _ h)) (Fr_mono fs_X6_setClause_2_30__X6_setClause_2 k))
def S_X6_clear_3_12 : CL := [(1, 12, 3), (1, 12, 4)]
theorem fm_X6_clear_3_12_1_12_4 : (1, 12, 4) ∈ S_X6_clear_3_12 := by decide
theorem fm_X6_clear_3_12_1_12_3 : (1, 12, 3) ∈ S_X6_clear_3_12 := by decide
theorem w_f_X6_clear_3_12  : ∀ (n : Nat) (h : HS) (x1 : Int32), pk (f_X6_clear_3_12  n h x1) (fun a => Fr S_X6_clear_3_12 h a) := by
  intro n
  induction n with
  | zero => intro h x1; exact pk_none
  | succ n ih =>
    intro h x1
    rw [f_X6_clear_3_12_s]
    refine pk_if (fun _ => ?_) (fun _ => ?_)
    · exact pk_some (Fr_refl _ h)
    · refine pk_chk (fun _ => ?_)
      refine pk_chk (fun _ => ?_)
      exact pk_mono (ih (sA (sA h 12 3 (upd (eA h 12 3) ((x1).toNatClampNeg) (-1))) 12 4 (upd (eA h 12 4) ((x1).toNatClampNeg) (-1))) (x1 + 1)) (fun _ k => Fr_trans (Fr_sA fm_X6_clear_3_12_1_12_4 (Fr_sA fm_X6_clear_3_12_1_12_3 (Fr_refl _ h))) k)
def S_X6_clear_3 : CL := [(0, 12, 1), (0, 12, 5), (1, 12, 3), (1, 12, 4)]
theorem fm_X6_clear_3_0_12_5 : (0, 12, 5) ∈ S_X6_clear_3 := by decide
theorem fm_X6_clear_3_0_12_1 : (0, 12, 1) ∈ S_X6_clear_3 := by decide
theorem fs_X6_clear_3_12__X6_clear_3 : ∀ x ∈ S_X6_clear_3_12, x ∈ S_X6_clear_3 := by decide
theorem w_f_X6_clear_3 (h : HS) : pk (f_X6_clear_3 h) (fun a => Fr S_X6_clear_3 h a) := by
  unfold f_X6_clear_3
  exact pk_mono (w_f_X6_clear_3_12 8589934592 (sI (sI h 12 1 0) 12 5 0) 0) (fun _ k => Fr_trans (Fr_sI fm_X6_clear_3_0_12_5 (Fr_sI fm_X6_clear_3_0_12_1 (Fr_refl _ h))) (Fr_mono fs_X6_clear_3_12__X6_clear_3 k))
def S_X6_hasLaw_3_24 : CL := []
theorem w_f_X6_hasLaw_3_24 (h : HS) (y0 : Int32) : pk (f_X6_hasLaw_3_24 h y0) (fun a => Fr S_X6_hasLaw_3_24 h a.2) := by
  unfold f_X6_hasLaw_3_24
  refine pk_chk (fun _ => ?_)
  exact pk_some (Fr_refl _ h)
def S_X6_hasLaw_3_23 : CL := []
theorem fs_X6_hasLaw_3_24__X6_hasLaw_3_23 : ∀ x ∈ S_X6_hasLaw_3_24, x ∈ S_X6_hasLaw_3_23 := by decide
theorem w_f_X6_hasLaw_3_23 (h : HS) : pk (f_X6_hasLaw_3_23 h) (fun a => Fr S_X6_hasLaw_3_23 h a.2) := by
  unfold f_X6_hasLaw_3_23
  exact pk_mono (w_f_X6_hasLaw_3_24 h 0) (fun _ k => Fr_trans (Fr_refl _ h) (Fr_mono fs_X6_hasLaw_3_24__X6_hasLaw_3_23 k))
def S_X6_hasLaw_3 : CL := []
theorem fs_X6_hasLaw_3_23__X6_hasLaw_3 : ∀ x ∈ S_X6_hasLaw_3_23, x ∈ S_X6_hasLaw_3 := by decide
theorem fs_X6_hasLaw_3_24__X6_hasLaw_3 : ∀ x ∈ S_X6_hasLaw_3_24, x ∈ S_X6_hasLaw_3 := by decide
theorem w_f_X6_hasLaw_3 (h : HS) (p1 : Int32) : pk (f_X6_hasLaw_3 h p1) (fun a => Fr S_X6_hasLaw_3 h a.2) := by
  unfold f_X6_hasLaw_3
  refine pk_if (fun _ => ?_) (fun _ => ?_)
  · exact pk_mono (w_f_X6_hasLaw_3_23 h) (fun _ k => Fr_trans (Fr_refl _ h) (Fr_mono fs_X6_hasLaw_3_23__X6_hasLaw_3 k))
  · refine pk_if (fun _ => ?_) (fun _ => ?_)
    · exact pk_mono (w_f_X6_hasLaw_3_23 h) (fun _ k => Fr_trans (Fr_refl _ h) (Fr_mono fs_X6_hasLaw_3_23__X6_hasLaw_3 k))
    · refine pk_chk (fun _ => ?_)
      refine pk_if (fun _ => ?_) (fun _ => ?_)
      · exact pk_mono (w_f_X6_hasLaw_3_23 h) (fun _ k => Fr_trans (Fr_refl _ h) (Fr_mono fs_X6_hasLaw_3_23__X6_hasLaw_3 k))
      · exact pk_mono (w_f_X6_hasLaw_3_24 h 1) (fun _ k => Fr_trans (Fr_refl _ h) (Fr_mono fs_X6_hasLaw_3_24__X6_hasLaw_3 k))
def S_X6_beginLaw_3_19 : CL := []
theorem w_f_X6_beginLaw_3_19 (h : HS) : pk (f_X6_beginLaw_3_19 h) (fun a => Fr S_X6_beginLaw_3_19 h a) := by
  unfold f_X6_beginLaw_3_19
  exact pk_some (Fr_refl _ h)
def S_X6_beginLaw_3 : CL := [(1, 12, 3)]
theorem fm_X6_beginLaw_3_1_12_3 : (1, 12, 3) ∈ S_X6_beginLaw_3 := by decide
theorem fs_X6_beginLaw_3_19__X6_beginLaw_3 : ∀ x ∈ S_X6_beginLaw_3_19, x ∈ S_X6_beginLaw_3 := by decide
theorem w_f_X6_beginLaw_3 (h : HS) (p1 : Int32) : pk (f_X6_beginLaw_3 h p1) (fun a => Fr S_X6_beginLaw_3 h a) := by
  unfold f_X6_beginLaw_3
  refine pk_if (fun _ => ?_) (fun _ => ?_)
  · exact pk_mono (w_f_X6_beginLaw_3_19 h) (fun _ k => Fr_trans (Fr_refl _ h) (Fr_mono fs_X6_beginLaw_3_19__X6_beginLaw_3 k))
  · refine pk_if (fun _ => ?_) (fun _ => ?_)
    · exact pk_mono (w_f_X6_beginLaw_3_19 h) (fun _ k => Fr_trans (Fr_refl _ h) (Fr_mono fs_X6_beginLaw_3_19__X6_beginLaw_3 k))
    · refine pk_chk (fun _ => ?_)
      exact pk_mono (w_f_X6_beginLaw_3_19 (sA h 12 3 (upd (eA h 12 3) ((p1).toNatClampNeg) (eI h 12 5)))) (fun _ k => Fr_trans (Fr_sA fm_X6_beginLaw_3_1_12_3 (Fr_refl _ h)) (Fr_mono fs_X6_beginLaw_3_19__X6_beginLaw_3 k))
def S_X6_closeLaw_3_19 : CL := []
theorem w_f_X6_closeLaw_3_19 (h : HS) : pk (f_X6_closeLaw_3_19 h) (fun a => Fr S_X6_closeLaw_3_19 h a) := by
  unfold f_X6_closeLaw_3_19
  exact pk_some (Fr_refl _ h)
def S_X6_closeLaw_3 : CL := [(1, 12, 4)]
theorem fm_X6_closeLaw_3_1_12_4 : (1, 12, 4) ∈ S_X6_closeLaw_3 := by decide
theorem fs_X6_closeLaw_3_19__X6_closeLaw_3 : ∀ x ∈ S_X6_closeLaw_3_19, x ∈ S_X6_closeLaw_3 := by decide
theorem w_f_X6_closeLaw_3 (h : HS) (p1 : Int32) : pk (f_X6_closeLaw_3 h p1) (fun a => Fr S_X6_closeLaw_3 h a) := by
  unfold f_X6_closeLaw_3
  refine pk_if (fun _ => ?_) (fun _ => ?_)
  · exact pk_mono (w_f_X6_closeLaw_3_19 h) (fun _ k => Fr_trans (Fr_refl _ h) (Fr_mono fs_X6_closeLaw_3_19__X6_closeLaw_3 k))
  · refine pk_if (fun _ => ?_) (fun _ => ?_)
    · exact pk_mono (w_f_X6_closeLaw_3_19 h) (fun _ k => Fr_trans (Fr_refl _ h) (Fr_mono fs_X6_closeLaw_3_19__X6_closeLaw_3 k))
    · refine pk_chk (fun _ => ?_)
      exact pk_mono (w_f_X6_closeLaw_3_19 (sA h 12 4 (upd (eA h 12 4) ((p1).toNatClampNeg) (eI h 12 5)))) (fun _ k => Fr_trans (Fr_sA fm_X6_closeLaw_3_1_12_4 (Fr_refl _ h)) (Fr_mono fs_X6_closeLaw_3_19__X6_closeLaw_3 k))
def S_X6_firstStep_3_19 : CL := []
theorem w_f_X6_firstStep_3_19 (h : HS) (y0 : Int32) : pk (f_X6_firstStep_3_19 h y0) (fun a => Fr S_X6_firstStep_3_19 h a.2) := by
  unfold f_X6_firstStep_3_19
  exact pk_some (Fr_refl _ h)
def S_X6_firstStep_3_18 : CL := []
theorem fs_X6_firstStep_3_19__X6_firstStep_3_18 : ∀ x ∈ S_X6_firstStep_3_19, x ∈ S_X6_firstStep_3_18 := by decide
theorem w_f_X6_firstStep_3_18 (h : HS) : pk (f_X6_firstStep_3_18 h) (fun a => Fr S_X6_firstStep_3_18 h a.2) := by
  unfold f_X6_firstStep_3_18
  exact pk_mono (w_f_X6_firstStep_3_19 h 0) (fun _ k => Fr_trans (Fr_refl _ h) (Fr_mono fs_X6_firstStep_3_19__X6_firstStep_3_18 k))
def S_X6_firstStep_3 : CL := []
theorem fs_X6_firstStep_3_18__X6_firstStep_3 : ∀ x ∈ S_X6_firstStep_3_18, x ∈ S_X6_firstStep_3 := by decide
theorem fs_X6_firstStep_3_19__X6_firstStep_3 : ∀ x ∈ S_X6_firstStep_3_19, x ∈ S_X6_firstStep_3 := by decide
theorem w_f_X6_firstStep_3 (h : HS) (p1 : Int32) : pk (f_X6_firstStep_3 h p1) (fun a => Fr S_X6_firstStep_3 h a.2) := by
  unfold f_X6_firstStep_3
  refine pk_if (fun _ => ?_) (fun _ => ?_)
  · exact pk_mono (w_f_X6_firstStep_3_18 h) (fun _ k => Fr_trans (Fr_refl _ h) (Fr_mono fs_X6_firstStep_3_18__X6_firstStep_3 k))
  · refine pk_if (fun _ => ?_) (fun _ => ?_)
    · exact pk_mono (w_f_X6_firstStep_3_18 h) (fun _ k => Fr_trans (Fr_refl _ h) (Fr_mono fs_X6_firstStep_3_18__X6_firstStep_3 k))
    · refine pk_chk (fun _ => ?_)
      exact pk_mono (w_f_X6_firstStep_3_19 h ((eA h 12 3) ((p1).toNatClampNeg))) (fun _ k => Fr_trans (Fr_refl _ h) (Fr_mono fs_X6_firstStep_3_19__X6_firstStep_3 k))
def S_X6_stepsEnd_3_19 : CL := []
theorem w_f_X6_stepsEnd_3_19 (h : HS) (y0 : Int32) : pk (f_X6_stepsEnd_3_19 h y0) (fun a => Fr S_X6_stepsEnd_3_19 h a.2) := by
  unfold f_X6_stepsEnd_3_19
  exact pk_some (Fr_refl _ h)
def S_X6_stepsEnd_3_18 : CL := []
theorem fs_X6_stepsEnd_3_19__X6_stepsEnd_3_18 : ∀ x ∈ S_X6_stepsEnd_3_19, x ∈ S_X6_stepsEnd_3_18 := by decide
theorem w_f_X6_stepsEnd_3_18 (h : HS) : pk (f_X6_stepsEnd_3_18 h) (fun a => Fr S_X6_stepsEnd_3_18 h a.2) := by
  unfold f_X6_stepsEnd_3_18
  exact pk_mono (w_f_X6_stepsEnd_3_19 h 0) (fun _ k => Fr_trans (Fr_refl _ h) (Fr_mono fs_X6_stepsEnd_3_19__X6_stepsEnd_3_18 k))
def S_X6_stepsEnd_3 : CL := []
theorem fs_X6_stepsEnd_3_18__X6_stepsEnd_3 : ∀ x ∈ S_X6_stepsEnd_3_18, x ∈ S_X6_stepsEnd_3 := by decide
theorem fs_X6_stepsEnd_3_19__X6_stepsEnd_3 : ∀ x ∈ S_X6_stepsEnd_3_19, x ∈ S_X6_stepsEnd_3 := by decide
theorem w_f_X6_stepsEnd_3 (h : HS) (p1 : Int32) : pk (f_X6_stepsEnd_3 h p1) (fun a => Fr S_X6_stepsEnd_3 h a.2) := by
  unfold f_X6_stepsEnd_3
  refine pk_if (fun _ => ?_) (fun _ => ?_)
  · exact pk_mono (w_f_X6_stepsEnd_3_18 h) (fun _ k => Fr_trans (Fr_refl _ h) (Fr_mono fs_X6_stepsEnd_3_18__X6_stepsEnd_3 k))
  · refine pk_if (fun _ => ?_) (fun _ => ?_)
    · exact pk_mono (w_f_X6_stepsEnd_3_18 h) (fun _ k => Fr_trans (Fr_refl _ h) (Fr_mono fs_X6_stepsEnd_3_18__X6_stepsEnd_3 k))
    · refine pk_chk (fun _ => ?_)
      exact pk_mono (w_f_X6_stepsEnd_3_19 h ((eA h 12 4) ((p1).toNatClampNeg))) (fun _ k => Fr_trans (Fr_refl _ h) (Fr_mono fs_X6_stepsEnd_3_19__X6_stepsEnd_3 k))
def S_X6_addStep_3_32 : CL := []
theorem w_f_X6_addStep_3_32 (h : HS) : pk (f_X6_addStep_3_32 h) (fun a => Fr S_X6_addStep_3_32 h a) := by
  unfold f_X6_addStep_3_32
  exact pk_some (Fr_refl _ h)
def S_X6_addStep_3 : CL := [(0, 12, 5), (1, 12, 2)]
theorem fm_X6_addStep_3_0_12_5 : (0, 12, 5) ∈ S_X6_addStep_3 := by decide
theorem fm_X6_addStep_3_1_12_2 : (1, 12, 2) ∈ S_X6_addStep_3 := by decide
theorem fs_X6_addStep_3_32__X6_addStep_3 : ∀ x ∈ S_X6_addStep_3_32, x ∈ S_X6_addStep_3 := by decide
theorem w_f_X6_addStep_3 (h : HS) (p1 : Int32) : pk (f_X6_addStep_3 h p1) (fun a => Fr S_X6_addStep_3 h a) := by
  unfold f_X6_addStep_3
  refine pk_if (fun _ => ?_) (fun _ => ?_)
  · exact pk_mono (w_f_X6_addStep_3_32 h) (fun _ k => Fr_trans (Fr_refl _ h) (Fr_mono fs_X6_addStep_3_32__X6_addStep_3 k))
  · refine pk_chk (fun _ => ?_)
    exact pk_mono (w_f_X6_addStep_3_32 (sI (sA h 12 2 (upd (eA h 12 2) (((eI h 12 5)).toNatClampNeg) p1)) 12 5 ((eI h 12 5) + 1))) (fun _ k => Fr_trans (Fr_sI fm_X6_addStep_3_0_12_5 (Fr_sA fm_X6_addStep_3_1_12_2 (Fr_refl _ h))) (Fr_mono fs_X6_addStep_3_32__X6_addStep_3 k))
def S_X6_stepAt_3_31 : CL := []
theorem w_f_X6_stepAt_3_31 (h : HS) (y0 : Int32) : pk (f_X6_stepAt_3_31 h y0) (fun a => Fr S_X6_stepAt_3_31 h a.2) := by
  unfold f_X6_stepAt_3_31
  exact pk_some (Fr_refl _ h)
def S_X6_stepAt_3_30 : CL := []
theorem fs_X6_stepAt_3_31__X6_stepAt_3_30 : ∀ x ∈ S_X6_stepAt_3_31, x ∈ S_X6_stepAt_3_30 := by decide
theorem w_f_X6_stepAt_3_30 (h : HS) : pk (f_X6_stepAt_3_30 h) (fun a => Fr S_X6_stepAt_3_30 h a.2) := by
  unfold f_X6_stepAt_3_30
  exact pk_mono (w_f_X6_stepAt_3_31 h 0) (fun _ k => Fr_trans (Fr_refl _ h) (Fr_mono fs_X6_stepAt_3_31__X6_stepAt_3_30 k))
def S_X6_stepAt_3 : CL := []
theorem fs_X6_stepAt_3_30__X6_stepAt_3 : ∀ x ∈ S_X6_stepAt_3_30, x ∈ S_X6_stepAt_3 := by decide
theorem fs_X6_stepAt_3_31__X6_stepAt_3 : ∀ x ∈ S_X6_stepAt_3_31, x ∈ S_X6_stepAt_3 := by decide
theorem w_f_X6_stepAt_3 (h : HS) (p1 : Int32) : pk (f_X6_stepAt_3 h p1) (fun a => Fr S_X6_stepAt_3 h a.2) := by
  unfold f_X6_stepAt_3
  refine pk_if (fun _ => ?_) (fun _ => ?_)
  · exact pk_mono (w_f_X6_stepAt_3_30 h) (fun _ k => Fr_trans (Fr_refl _ h) (Fr_mono fs_X6_stepAt_3_30__X6_stepAt_3 k))
  · refine pk_if (fun _ => ?_) (fun _ => ?_)
    · exact pk_mono (w_f_X6_stepAt_3_30 h) (fun _ k => Fr_trans (Fr_refl _ h) (Fr_mono fs_X6_stepAt_3_30__X6_stepAt_3 k))
    · refine pk_if (fun _ => ?_) (fun _ => ?_)
      · exact pk_mono (w_f_X6_stepAt_3_30 h) (fun _ k => Fr_trans (Fr_refl _ h) (Fr_mono fs_X6_stepAt_3_30__X6_stepAt_3 k))
      · refine pk_chk (fun _ => ?_)
        exact pk_mono (w_f_X6_stepAt_3_31 h ((eA h 12 2) ((p1).toNatClampNeg))) (fun _ k => Fr_trans (Fr_refl _ h) (Fr_mono fs_X6_stepAt_3_31__X6_stepAt_3 k))
def S_X6_clauseField_3_19 : CL := []
theorem w_f_X6_clauseField_3_19 (h : HS) : pk (f_X6_clauseField_3_19 h) (fun a => Fr S_X6_clauseField_3_19 h a.2) := by
  unfold f_X6_clauseField_3_19
  exact pk_some (Fr_refl _ h)
def S_X6_clauseField_3 : CL := []
theorem fs_X6_clauseField_3_19__X6_clauseField_3 : ∀ x ∈ S_X6_clauseField_3_19, x ∈ S_X6_clauseField_3 := by decide
theorem w_f_X6_clauseField_3 (h : HS) (p1 : Int32) (p2 : Int32) : pk (f_X6_clauseField_3 h p1 p2) (fun a => Fr S_X6_clauseField_3 h a.2) := by
  unfold f_X6_clauseField_3
  refine pk_if (fun _ => ?_) (fun _ => ?_)
  · exact pk_mono (w_f_X6_clauseField_3_19 h) (fun _ k => Fr_trans (Fr_refl _ h) (Fr_mono fs_X6_clauseField_3_19__X6_clauseField_3 k))
  · refine pk_if (fun _ => ?_) (fun _ => ?_)
    · exact pk_mono (w_f_X6_clauseField_3_19 h) (fun _ k => Fr_trans (Fr_refl _ h) (Fr_mono fs_X6_clauseField_3_19__X6_clauseField_3 k))
    · refine pk_if (fun _ => ?_) (fun _ => ?_)
      · exact pk_mono (w_f_X6_clauseField_3_19 h) (fun _ k => Fr_trans (Fr_refl _ h) (Fr_mono fs_X6_clauseField_3_19__X6_clauseField_3 k))
      · refine pk_if (fun _ => ?_) (fun _ => ?_)
        · refine pk_chk (fun _ => ?_)
          exact pk_some (Fr_refl _ h)
        · exact pk_mono (w_f_X6_clauseField_3_19 h) (fun _ k => Fr_trans (Fr_refl _ h) (Fr_mono fs_X6_clauseField_3_19__X6_clauseField_3 k))
def S_X6_setClause_3_30 : CL := []
theorem w_f_X6_setClause_3_30 (h : HS) : pk (f_X6_setClause_3_30 h) (fun a => Fr S_X6_setClause_3_30 h a) := by
  unfold f_X6_setClause_3_30
  exact pk_some (Fr_refl _ h)
def S_X6_setClause_3 : CL := [(1, 12, 0)]
theorem fm_X6_setClause_3_1_12_0 : (1, 12, 0) ∈ S_X6_setClause_3 := by decide
theorem fs_X6_setClause_3_30__X6_setClause_3 : ∀ x ∈ S_X6_setClause_3_30, x ∈ S_X6_setClause_3 := by decide
theorem w_f_X6_setClause_3 (h : HS) (p1 : Int32) (p2 : Int32) (p3 : Int32) : pk (f_X6_setClause_3 h p1 p2 p3) (fun a => Fr S_X6_setClause_3 h a) := by
  unfold f_X6_setClause_3
  refine pk_if (fun _ => ?_) (fun _ => ?_)
  · exact pk_mono (w_f_X6_setClause_3_30 h) (fun _ k => Fr_trans (Fr_refl _ h) (Fr_mono fs_X6_setClause_3_30__X6_setClause_3 k))
  · refine pk_if (fun _ => ?_) (fun _ => ?_)
    · exact pk_mono (w_f_X6_setClause_3_30 h) (fun _ k => Fr_trans (Fr_refl _ h) (Fr_mono fs_X6_setClause_3_30__X6_setClause_3 k))
    · refine pk_if (fun _ => ?_) (fun _ => ?_)
      · exact pk_mono (w_f_X6_setClause_3_30 h) (fun _ k => Fr_trans (Fr_refl _ h) (Fr_mono fs_X6_setClause_3_30__X6_setClause_3 k))
      · refine pk_if (fun _ => ?_) (fun _ => ?_)
        · exact pk_mono (w_f_X6_setClause_3_30 h) (fun _ k => Fr_trans (Fr_refl _ h) (Fr_mono fs_X6_setClause_3_30__X6_setClause_3 k))
        · refine pk_chk (fun _ => ?_)
          exact pk_mono (w_f_X6_setClause_3_30 (sA h 12 0 (upd (eA h 12 0) ((((p1 * 4) + p2)).toNatClampNeg) p3))) (fun _ k => Fr_trans (Fr_sA fm_X6_setClause_3_1_12_0 (Fr_refl _ h)) (Fr_mono fs_X6_setClause_3_30__X6_setClause_3 k))
def S_X0_begin_12 : CL := [(3, 7, 2)]
theorem fm_X0_begin_12_3_7_2 : (3, 7, 2) ∈ S_X0_begin_12 := by decide
theorem w_f_X0_begin_40 (k12 : HS → Int32 → Int32 → Int32 → Option HS) (hk_k12 : ∀ (h : HS) (x0 : Int32) (x1 : Int32) (x2 : Int32), pk (k12 h x0 x1 x2) (fun a => Fr S_X0_begin_12 h a)) (h : HS) (x1 : Int32) (x2 : Int32) (x3 : Int32) (y0 : Int64) (y1 : Int32) : pk (f_X0_begin_40 k12 h x1 x2 x3 y0 y1) (fun a => Fr S_X0_begin_12 h a) := by
  unfold f_X0_begin_40
  refine pk_chk (fun _ => ?_)
  exact pk_mono (hk_k12 (sJ h 7 2 (vp_updL (eJ h 7 2) ((y1).toNatClampNeg) y0)) x1 x2 (x3 + 1)) (fun _ k => Fr_trans (Fr_sJ fm_X0_begin_12_3_7_2 (Fr_refl _ h)) k)
theorem w_f_X0_begin_12  : ∀ (n : Nat) (h : HS) (x1 : Int32) (x2 : Int32) (x3 : Int32), pk (f_X0_begin_12  n h x1 x2 x3) (fun a => Fr S_X0_begin_12 h a) := by
  intro n
  induction n with
  | zero => intro h x1 x2 x3; exact pk_none
  | succ n ih =>
    intro h x1 x2 x3
    rw [f_X0_begin_12_s]
    refine pk_if (fun _ => ?_) (fun _ => ?_)
    · exact pk_some (Fr_refl _ h)
    · refine pk_if (fun _ => ?_) (fun _ => ?_)
      · exact pk_mono (w_f_X0_begin_40 (f_X0_begin_12 n) ih h x1 x2 x3 1 x3) (fun _ k => Fr_trans (Fr_refl _ h) k)
      · exact pk_mono (w_f_X0_begin_40 (f_X0_begin_12 n) ih h x1 x2 x3 0 x3) (fun _ k => Fr_trans (Fr_refl _ h) k)
def S_X0_begin : CL := [(0, 7, 0), (2, 7, 1), (3, 7, 2)]
theorem fm_X0_begin_2_7_1 : (2, 7, 1) ∈ S_X0_begin := by decide
theorem fm_X0_begin_0_7_0 : (0, 7, 0) ∈ S_X0_begin := by decide
theorem fs_X0_begin_12__X0_begin : ∀ x ∈ S_X0_begin_12, x ∈ S_X0_begin := by decide
theorem w_f_X0_begin (h : HS) (p1 : Int32) (p2 : Int32) : pk (f_X0_begin h p1 p2) (fun a => Fr S_X0_begin h a) := by
  unfold f_X0_begin
  exact pk_mono (w_f_X0_begin_12 8589934592 (sL (sI h 7 0 0) 7 1 1) p1 p2 0) (fun _ k => Fr_trans (Fr_sL fm_X0_begin_2_7_1 (Fr_sI fm_X0_begin_0_7_0 (Fr_refl _ h))) (Fr_mono fs_X0_begin_12__X0_begin k))
def S_X0_upper_5 : CL := []
theorem w_f_X0_upper_90 (k5 : HS → Int32 → Int64 → Int32 → Option (Int64 × HS)) (hk_k5 : ∀ (h : HS) (x0 : Int32) (x1 : Int64) (x2 : Int32), pk (k5 h x0 x1 x2) (fun a => Fr S_X0_upper_5 h a.2)) (h : HS) (x1 : Int32) (x2 : Int64) (x4 : Int32) : pk (f_X0_upper_90 k5 h x1 x2 x4) (fun a => Fr S_X0_upper_5 h a.2) := by
  unfold f_X0_upper_90
  exact pk_mono (hk_k5 h x1 x2 (x4 + 1)) (fun _ k => Fr_trans (Fr_refl _ h) k)
theorem w_f_X0_upper_80 (k5 : HS → Int32 → Int64 → Int32 → Option (Int64 × HS)) (hk_k5 : ∀ (h : HS) (x0 : Int32) (x1 : Int64) (x2 : Int32), pk (k5 h x0 x1 x2) (fun a => Fr S_X0_upper_5 h a.2)) (h : HS) (x1 : Int32) (x2 : Int64) (x4 : Int32) : pk (f_X0_upper_80 k5 h x1 x2 x4) (fun a => Fr S_X0_upper_5 h a.2) := by
  unfold f_X0_upper_80
  refine pk_chk (fun _ => ?_)
  exact pk_mono (w_f_X0_upper_90 k5 hk_k5 h x1 (x2 + ((eJ h 7 2) ((x4).toNatClampNeg))) x4) (fun _ k => Fr_trans (Fr_refl _ h) k)
theorem w_f_X0_upper_43 (k5 : HS → Int32 → Int64 → Int32 → Option (Int64 × HS)) (hk_k5 : ∀ (h : HS) (x0 : Int32) (x1 : Int64) (x2 : Int32), pk (k5 h x0 x1 x2) (fun a => Fr S_X0_upper_5 h a.2)) (h : HS) (x1 : Int32) (x2 : Int64) (x4 : Int32) (x5 : Int32) (y0 : Int32) : pk (f_X0_upper_43 k5 h x1 x2 x4 x5 y0) (fun a => Fr S_X0_upper_5 h a.2) := by
  unfold f_X0_upper_43
  refine pk_if (fun _ => ?_) (fun _ => ?_)
  · refine pk_if (fun _ => ?_) (fun _ => ?_)
    · exact pk_mono (w_f_X0_upper_90 k5 hk_k5 h x1 x2 x4) (fun _ k => Fr_trans (Fr_refl _ h) k)
    · exact pk_mono (w_f_X0_upper_80 k5 hk_k5 h x1 x2 x4) (fun _ k => Fr_trans (Fr_refl _ h) k)
  · refine pk_if (fun _ => ?_) (fun _ => ?_)
    · refine pk_if (fun _ => ?_) (fun _ => ?_)
      · exact pk_mono (w_f_X0_upper_90 k5 hk_k5 h x1 x2 x4) (fun _ k => Fr_trans (Fr_refl _ h) k)
      · exact pk_mono (w_f_X0_upper_80 k5 hk_k5 h x1 x2 x4) (fun _ k => Fr_trans (Fr_refl _ h) k)
    · refine pk_if (fun _ => ?_) (fun _ => ?_)
      · exact pk_mono (w_f_X0_upper_90 k5 hk_k5 h x1 x2 x4) (fun _ k => Fr_trans (Fr_refl _ h) k)
      · refine pk_if (fun _ => ?_) (fun _ => ?_)
        · exact pk_mono (w_f_X0_upper_80 k5 hk_k5 h x1 x2 x4) (fun _ k => Fr_trans (Fr_refl _ h) k)
        · exact pk_mono (w_f_X0_upper_90 k5 hk_k5 h x1 x2 x4) (fun _ k => Fr_trans (Fr_refl _ h) k)
theorem w_f_X0_upper_28 (k5 : HS → Int32 → Int64 → Int32 → Option (Int64 × HS)) (hk_k5 : ∀ (h : HS) (x0 : Int32) (x1 : Int64) (x2 : Int32), pk (k5 h x0 x1 x2) (fun a => Fr S_X0_upper_5 h a.2)) (h : HS) (x1 : Int32) (x2 : Int64) (x4 : Int32) (y0 : Int32) : pk (f_X0_upper_28 k5 h x1 x2 x4 y0) (fun a => Fr S_X0_upper_5 h a.2) := by
  unfold f_X0_upper_28
  refine pk_if (fun _ => ?_) (fun _ => ?_)
  · exact pk_mono (w_f_X0_upper_43 k5 hk_k5 h x1 x2 x4 y0 1) (fun _ k => Fr_trans (Fr_refl _ h) k)
  · exact pk_mono (w_f_X0_upper_43 k5 hk_k5 h x1 x2 x4 y0 0) (fun _ k => Fr_trans (Fr_refl _ h) k)
theorem w_f_X0_upper_5  : ∀ (n : Nat) (h : HS) (x1 : Int32) (x2 : Int64) (x4 : Int32), pk (f_X0_upper_5  n h x1 x2 x4) (fun a => Fr S_X0_upper_5 h a.2) := by
  intro n
  induction n with
  | zero => intro h x1 x2 x4; exact pk_none
  | succ n ih =>
    intro h x1 x2 x4
    rw [f_X0_upper_5_s]
    refine pk_if (fun _ => ?_) (fun _ => ?_)
    · exact pk_some (Fr_refl _ h)
    · refine pk_if (fun _ => ?_) (fun _ => ?_)
      · exact pk_mono (w_f_X0_upper_28 (f_X0_upper_5 n) ih h x1 x2 x4 1) (fun _ k => Fr_trans (Fr_refl _ h) k)
      · exact pk_mono (w_f_X0_upper_28 (f_X0_upper_5 n) ih h x1 x2 x4 0) (fun _ k => Fr_trans (Fr_refl _ h) k)
def S_X0_upper : CL := []
theorem fs_X0_upper_5__X0_upper : ∀ x ∈ S_X0_upper_5, x ∈ S_X0_upper := by decide
theorem w_f_X0_upper (h : HS) (p1 : Int32) : pk (f_X0_upper h p1) (fun a => Fr S_X0_upper h a.2) := by
  unfold f_X0_upper
  exact pk_mono (w_f_X0_upper_5 8589934592 h p1 0 0) (fun _ k => Fr_trans (Fr_refl _ h) (Fr_mono fs_X0_upper_5__X0_upper k))
def S_X3_isEnough_29 : CL := []
theorem w_f_X3_isEnough_29 (h : HS) (y0 : Int32) : pk (f_X3_isEnough_29 h y0) (fun a => Fr S_X3_isEnough_29 h a.2) := by
  unfold f_X3_isEnough_29
  refine pk_chk (fun _ => ?_)
  exact pk_some (Fr_refl _ h)
def S_X3_isEnough : CL := []
theorem fs_X3_isEnough_29__X3_isEnough : ∀ x ∈ S_X3_isEnough_29, x ∈ S_X3_isEnough := by decide
theorem w_f_X3_isEnough (h : HS) (p1 : Int64) : pk (f_X3_isEnough h p1) (fun a => Fr S_X3_isEnough h a.2) := by
  unfold f_X3_isEnough
  refine pk_if (fun _ => ?_) (fun _ => ?_)
  · exact pk_mono (w_f_X3_isEnough_29 h 0) (fun _ k => Fr_trans (Fr_refl _ h) (Fr_mono fs_X3_isEnough_29__X3_isEnough k))
  · exact pk_mono (w_f_X3_isEnough_29 h 1) (fun _ k => Fr_trans (Fr_refl _ h) (Fr_mono fs_X3_isEnough_29__X3_isEnough k))
def S_X3_isBetter_21 : CL := []
theorem w_f_X3_isBetter_21 (h : HS) (y0 : Int32) : pk (f_X3_isBetter_21 h y0) (fun a => Fr S_X3_isBetter_21 h a.2) := by
  unfold f_X3_isBetter_21
  refine pk_chk (fun _ => ?_)
  exact pk_some (Fr_refl _ h)
def S_X3_isBetter_16 : CL := []
theorem fs_X3_isBetter_21__X3_isBetter_16 : ∀ x ∈ S_X3_isBetter_21, x ∈ S_X3_isBetter_16 := by decide
theorem w_f_X3_isBetter_16 (h : HS) : pk (f_X3_isBetter_16 h) (fun a => Fr S_X3_isBetter_16 h a.2) := by
  unfold f_X3_isBetter_16
  exact pk_mono (w_f_X3_isBetter_21 h 1) (fun _ k => Fr_trans (Fr_refl _ h) (Fr_mono fs_X3_isBetter_21__X3_isBetter_16 k))
def S_X3_isBetter : CL := []
theorem fs_X3_isBetter_16__X3_isBetter : ∀ x ∈ S_X3_isBetter_16, x ∈ S_X3_isBetter := by decide
theorem fs_X3_isBetter_21__X3_isBetter : ∀ x ∈ S_X3_isBetter_21, x ∈ S_X3_isBetter := by decide
theorem w_f_X3_isBetter (h : HS) (p1 : Int64) : pk (f_X3_isBetter h p1) (fun a => Fr S_X3_isBetter h a.2) := by
  unfold f_X3_isBetter
  refine pk_if (fun _ => ?_) (fun _ => ?_)
  · exact pk_mono (w_f_X3_isBetter_16 h) (fun _ k => Fr_trans (Fr_refl _ h) (Fr_mono fs_X3_isBetter_16__X3_isBetter k))
  · refine pk_if (fun _ => ?_) (fun _ => ?_)
    · exact pk_mono (w_f_X3_isBetter_21 h 0) (fun _ k => Fr_trans (Fr_refl _ h) (Fr_mono fs_X3_isBetter_21__X3_isBetter k))
    · exact pk_mono (w_f_X3_isBetter_16 h) (fun _ k => Fr_trans (Fr_refl _ h) (Fr_mono fs_X3_isBetter_16__X3_isBetter k))
def S_X3_keep_83 : CL := []
theorem w_f_X3_keep_83 (h : HS) : pk (f_X3_keep_83 h) (fun a => Fr S_X3_keep_83 h a) := by
  unfold f_X3_keep_83
  exact pk_some (Fr_refl _ h)
def S_X3_keep_23 : CL := [(1, 8, 6), (1, 8, 7)]
theorem fm_X3_keep_23_1_8_7 : (1, 8, 7) ∈ S_X3_keep_23 := by decide
theorem fm_X3_keep_23_1_8_6 : (1, 8, 6) ∈ S_X3_keep_23 := by decide
theorem fs_X3_keep_83__X3_keep_23 : ∀ x ∈ S_X3_keep_83, x ∈ S_X3_keep_23 := by decide
theorem w_f_X3_keep_23  : ∀ (n : Nat) (h : HS) (x4 : Int32), pk (f_X3_keep_23  n h x4) (fun a => Fr S_X3_keep_23 h a) := by
  intro n
  induction n with
  | zero => intro h x4; exact pk_none
  | succ n ih =>
    intro h x4
    rw [f_X3_keep_23_s]
    refine pk_if (fun _ => ?_) (fun _ => ?_)
    · exact pk_mono (w_f_X3_keep_83 h) (fun _ k => Fr_trans (Fr_refl _ h) (Fr_mono fs_X3_keep_83__X3_keep_23 k))
    · refine pk_if (fun _ => ?_) (fun _ => ?_)
      · exact pk_mono (w_f_X3_keep_83 h) (fun _ k => Fr_trans (Fr_refl _ h) (Fr_mono fs_X3_keep_83__X3_keep_23 k))
      · refine pk_chk (fun _ => ?_)
        refine pk_chk (fun _ => ?_)
        refine pk_chk (fun _ => ?_)
        refine pk_chk (fun _ => ?_)
        refine pk_chk (fun _ => ?_)
        exact pk_mono (ih (sA (sA h 8 6 (upd (eA h 8 6) ((x4).toNatClampNeg) ((eA h 8 3) ((x4).toNatClampNeg)))) 8 7 (upd (eA h 8 7) ((x4).toNatClampNeg) ((((eA h 8 5) ((x4).toNatClampNeg)) * 10) + ((eA h 8 4) ((x4).toNatClampNeg))))) (x4 + 1)) (fun _ k => Fr_trans (Fr_sA fm_X3_keep_23_1_8_7 (Fr_sA fm_X3_keep_23_1_8_6 (Fr_refl _ h))) k)
def S_X3_keep : CL := [(0, 8, 12), (0, 8, 13), (0, 8, 15), (1, 8, 6), (1, 8, 7), (2, 8, 14)]
theorem fm_X3_keep_0_8_15 : (0, 8, 15) ∈ S_X3_keep := by decide
theorem fm_X3_keep_2_8_14 : (2, 8, 14) ∈ S_X3_keep := by decide
theorem fm_X3_keep_0_8_13 : (0, 8, 13) ∈ S_X3_keep := by decide
theorem fm_X3_keep_0_8_12 : (0, 8, 12) ∈ S_X3_keep := by decide
theorem fs_X3_keep_23__X3_keep : ∀ x ∈ S_X3_keep_23, x ∈ S_X3_keep := by decide
theorem w_f_X3_keep (h : HS) (p1 : Int64) (p2 : Int32) : pk (f_X3_keep h p1 p2) (fun a => Fr S_X3_keep h a) := by
  unfold f_X3_keep
  exact pk_mono (w_f_X3_keep_23 8589934592 (sI (sL (sI (sI h 8 12 1) 8 13 1) 8 14 p1) 8 15 p2) 0) (fun _ k => Fr_trans (Fr_sI fm_X3_keep_0_8_15 (Fr_sL fm_X3_keep_2_8_14 (Fr_sI fm_X3_keep_0_8_13 (Fr_sI fm_X3_keep_0_8_12 (Fr_refl _ h))))) (Fr_mono fs_X3_keep_23__X3_keep k))
def S_X3_choiceOf_38 : CL := []
theorem w_f_X3_choiceOf_38 (h : HS) : pk (f_X3_choiceOf_38 h) (fun a => Fr S_X3_choiceOf_38 h a.2) := by
  unfold f_X3_choiceOf_38
  exact pk_some (Fr_refl _ h)
def S_X3_choiceOf_2 : CL := []
theorem fs_X3_choiceOf_38__X3_choiceOf_2 : ∀ x ∈ S_X3_choiceOf_38, x ∈ S_X3_choiceOf_2 := by decide
theorem w_f_X3_choiceOf_2  : ∀ (n : Nat) (h : HS) (x1 : Int32) (x2 : Int32), pk (f_X3_choiceOf_2  n h x1 x2) (fun a => Fr S_X3_choiceOf_2 h a.2) := by
  intro n
  induction n with
  | zero => intro h x1 x2; exact pk_none
  | succ n ih =>
    intro h x1 x2
    rw [f_X3_choiceOf_2_s]
    refine pk_if (fun _ => ?_) (fun _ => ?_)
    · exact pk_mono (w_f_X3_choiceOf_38 h) (fun _ k => Fr_trans (Fr_refl _ h) (Fr_mono fs_X3_choiceOf_38__X3_choiceOf_2 k))
    · refine pk_if (fun _ => ?_) (fun _ => ?_)
      · exact pk_mono (w_f_X3_choiceOf_38 h) (fun _ k => Fr_trans (Fr_refl _ h) (Fr_mono fs_X3_choiceOf_38__X3_choiceOf_2 k))
      · refine pk_chk (fun _ => ?_)
        refine pk_if (fun _ => ?_) (fun _ => ?_)
        · refine pk_chk (fun _ => ?_)
          exact pk_some (Fr_refl _ h)
        · exact pk_mono (ih h x1 (x2 + 1)) (fun _ k => Fr_trans (Fr_refl _ h) k)
