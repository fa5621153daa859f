theorem fs_X9_works__X9_goesOn_181 : ∀ x ∈ S_X9_works, x ∈ S_X9_goesOn_181 := by decide
theorem fs_X9_emits__X9_goesOn_181 : ∀ x ∈ S_X9_emits, x ∈ S_X9_goesOn_181 := by decide
theorem fs_X9_askIsOver__X9_goesOn_181 : ∀ x ∈ S_X9_askIsOver, x ∈ S_X9_goesOn_181 := by decide
theorem fs_X9_goesOn_250__X9_goesOn_181 : ∀ x ∈ S_X9_goesOn_250, x ∈ S_X9_goesOn_181 := by decide
theorem fs_X9_isSign__X9_goesOn_181 : ∀ x ∈ S_X9_isSign, x ∈ S_X9_goesOn_181 := by decide
theorem fs_X9_goesOn_245__X9_goesOn_181 : ∀ x ∈ S_X9_goesOn_245, x ∈ S_X9_goesOn_181 := by decide
theorem fs_X9_clauseIsOver__X9_goesOn_181 : ∀ x ∈ S_X9_clauseIsOver, x ∈ S_X9_goesOn_181 := by decide
theorem w_f_X9_goesOn_181 (h : HS) (x1 : Int32) : pk (f_X9_goesOn_181 h x1) (fun a => Fr S_X9_goesOn_181 h a) := by
  unfold f_X9_goesOn_181
  refine pk_if (fun _ => ?_) (fun _ => ?_)
  · refine pk_ob1 (w_f_X9_works h 3) (fun h_27 k_1 => ?_)
    replace k_1 := Fr_trans (Fr_refl _ h) (Fr_mono fs_X9_works__X9_goesOn_181 k_1)
    refine pk_chk (fun _ => ?_)
    refine pk_ob1 (w_f_X9_emits (sI h_27 0 22 ((eI h_27 0 22) - 1)) ((eA h_27 0 24) (((eI h_27 0 22)).toNatClampNeg)) 0) (fun h_29 k_2 => ?_)
    replace k_2 := Fr_trans (Fr_sI fm_X9_goesOn_181_0_0_22 k_1) (Fr_mono fs_X9_emits__X9_goesOn_181 k_2)
    refine pk_ob1 (w_f_X9_askIsOver h_29) (fun h_30 k_3 => ?_)
    replace k_3 := Fr_trans k_2 (Fr_mono fs_X9_askIsOver__X9_goesOn_181 k_3)
    exact pk_mono (w_f_X9_goesOn_250 h_30) (fun _ k => Fr_trans k_3 (Fr_mono fs_X9_goesOn_250__X9_goesOn_181 k))
  · refine pk_if (fun _ => ?_) (fun _ => ?_)
    · refine pk_ob2 (w_f_X9_isSign h 59) (fun r_24 h_24 k_4 => ?_)
      replace k_4 := Fr_trans (Fr_refl _ h) (Fr_mono fs_X9_isSign__X9_goesOn_181 k_4)
      refine pk_if (fun _ => ?_) (fun _ => ?_)
      · exact pk_mono (w_f_X9_goesOn_245 h_24) (fun _ k => Fr_trans k_4 (Fr_mono fs_X9_goesOn_245__X9_goesOn_181 k))
      · refine pk_ob1 (w_f_X9_clauseIsOver h_24) (fun h_26 k_5 => ?_)
        replace k_5 := Fr_trans k_4 (Fr_mono fs_X9_clauseIsOver__X9_goesOn_181 k_5)
        exact pk_mono (w_f_X9_goesOn_250 h_26) (fun _ k => Fr_trans k_5 (Fr_mono fs_X9_goesOn_250__X9_goesOn_181 k))
    · exact pk_mono (w_f_X9_goesOn_245 h) (fun _ k => Fr_trans (Fr_refl _ h) (Fr_mono fs_X9_goesOn_245__X9_goesOn_181 k))
def S_X9_goesOn_116 : CL := [(0, 0, 15), (0, 0, 16), (0, 0, 17), (0, 0, 18), (0, 0, 19), (0, 0, 20), (0, 0, 21), (0, 0, 22), (0, 0, 25), (0, 0, 28), (0, 0, 29), (0, 0, 36), (1, 0, 23), (1, 0, 24), (1, 0, 37), (1, 0, 38)]
theorem fm_X9_goesOn_116_1_0_23 : (1, 0, 23) ∈ S_X9_goesOn_116 := by decide
theorem fm_X9_goesOn_116_1_0_24 : (1, 0, 24) ∈ S_X9_goesOn_116 := by decide
theorem fm_X9_goesOn_116_0_0_28 : (0, 0, 28) ∈ S_X9_goesOn_116 := by decide
theorem fs_X9_goesOn_181__X9_goesOn_116 : ∀ x ∈ S_X9_goesOn_181, x ∈ S_X9_goesOn_116 := by decide
theorem fs_X9_works__X9_goesOn_116 : ∀ x ∈ S_X9_works, x ∈ S_X9_goesOn_116 := by decide
theorem fs_X9_next__X9_goesOn_116 : ∀ x ∈ S_X9_next, x ∈ S_X9_goesOn_116 := by decide
theorem fs_X9_goesOn_250__X9_goesOn_116 : ∀ x ∈ S_X9_goesOn_250, x ∈ S_X9_goesOn_116 := by decide
theorem w_f_X9_goesOn_116 (h : HS) (x1 : Int32) : pk (f_X9_goesOn_116 h x1) (fun a => Fr S_X9_goesOn_116 h a) := by
  unfold f_X9_goesOn_116
  refine pk_if (fun _ => ?_) (fun _ => ?_)
  · refine pk_if (fun _ => ?_) (fun _ => ?_)
    · refine pk_obf (fun r_16 => ?_)
      refine pk_if (fun _ => ?_) (fun _ => ?_)
      · exact pk_mono (w_f_X9_goesOn_181 h x1) (fun _ k => Fr_trans (Fr_refl _ h) (Fr_mono fs_X9_goesOn_181__X9_goesOn_116 k))
      · refine pk_ob1 (w_f_X9_works h 3) (fun h_18 k_1 => ?_)
        replace k_1 := Fr_trans (Fr_refl _ h) (Fr_mono fs_X9_works__X9_goesOn_116 k_1)
        refine pk_chk (fun _ => ?_)
        refine pk_chk (fun _ => ?_)
        refine pk_ob1 (w_f_X9_next (sA (sA h_18 0 24 (upd (eA h_18 0 24) (((eI h_18 0 22)).toNatClampNeg) (eI h_18 0 18))) 0 23 (upd (eA h_18 0 23) ((((eI h_18 0 22) - 1)).toNatClampNeg) 5))) (fun h_21 k_2 => ?_)
        replace k_2 := Fr_trans (Fr_sA fm_X9_goesOn_116_1_0_23 (Fr_sA fm_X9_goesOn_116_1_0_24 k_1)) (Fr_mono fs_X9_next__X9_goesOn_116 k_2)
        exact pk_mono (w_f_X9_goesOn_250 (sI h_21 0 28 1)) (fun _ k => Fr_trans (Fr_sI fm_X9_goesOn_116_0_0_28 k_2) (Fr_mono fs_X9_goesOn_250__X9_goesOn_116 k))
    · exact pk_mono (w_f_X9_goesOn_181 h x1) (fun _ k => Fr_trans (Fr_refl _ h) (Fr_mono fs_X9_goesOn_181__X9_goesOn_116 k))
  · exact pk_mono (w_f_X9_goesOn_181 h x1) (fun _ k => Fr_trans (Fr_refl _ h) (Fr_mono fs_X9_goesOn_181__X9_goesOn_116 k))
def S_X9_goesOn_65 : CL := [(0, 0, 15), (0, 0, 16), (0, 0, 17), (0, 0, 18), (0, 0, 19), (0, 0, 20), (0, 0, 21), (0, 0, 22), (0, 0, 25), (0, 0, 28), (0, 0, 29), (0, 0, 36), (1, 0, 23), (1, 0, 24), (1, 0, 37), (1, 0, 38)]
theorem fm_X9_goesOn_65_0_0_21 : (0, 0, 21) ∈ S_X9_goesOn_65 := by decide
theorem fm_X9_goesOn_65_0_0_22 : (0, 0, 22) ∈ S_X9_goesOn_65 := by decide
theorem fs_X9_isSign__X9_goesOn_65 : ∀ x ∈ S_X9_isSign, x ∈ S_X9_goesOn_65 := by decide
theorem fs_X9_goesOn_116__X9_goesOn_65 : ∀ x ∈ S_X9_goesOn_116, x ∈ S_X9_goesOn_65 := by decide
theorem fs_X9_works__X9_goesOn_65 : ∀ x ∈ S_X9_works, x ∈ S_X9_goesOn_65 := by decide
theorem fs_X9_next__X9_goesOn_65 : ∀ x ∈ S_X9_next, x ∈ S_X9_goesOn_65 := by decide
theorem fs_X9_oneIsOver__X9_goesOn_65 : ∀ x ∈ S_X9_oneIsOver, x ∈ S_X9_goesOn_65 := by decide
theorem fs_X9_goesOn_250__X9_goesOn_65 : ∀ x ∈ S_X9_goesOn_250, x ∈ S_X9_goesOn_65 := by decide
theorem w_f_X9_goesOn_65 (h : HS) (x1 : Int32) : pk (f_X9_goesOn_65 h x1) (fun a => Fr S_X9_goesOn_65 h a) := by
  unfold f_X9_goesOn_65
  refine pk_if (fun _ => ?_) (fun _ => ?_)
  · refine pk_ob2 (w_f_X9_isSign h 41) (fun r_8 h_8 k_1 => ?_)
    replace k_1 := Fr_trans (Fr_refl _ h) (Fr_mono fs_X9_isSign__X9_goesOn_65 k_1)
    refine pk_if (fun _ => ?_) (fun _ => ?_)
    · exact pk_mono (w_f_X9_goesOn_116 h_8 x1) (fun _ k => Fr_trans k_1 (Fr_mono fs_X9_goesOn_116__X9_goesOn_65 k))
    · refine pk_ob1 (w_f_X9_works h_8 3) (fun h_10 k_2 => ?_)
      replace k_2 := Fr_trans k_1 (Fr_mono fs_X9_works__X9_goesOn_65 k_2)
      refine pk_ob1 (w_f_X9_next (sI (sI h_10 0 22 ((eI h_10 0 22) - 1)) 0 21 ((eI h_10 0 21) - 1))) (fun h_11 k_3 => ?_)
      replace k_3 := Fr_trans (Fr_sI fm_X9_goesOn_65_0_0_21 (Fr_sI fm_X9_goesOn_65_0_0_22 k_2)) (Fr_mono fs_X9_next__X9_goesOn_65 k_3)
      refine pk_ob1 (w_f_X9_oneIsOver h_11) (fun h_12 k_4 => ?_)
      replace k_4 := Fr_trans k_3 (Fr_mono fs_X9_oneIsOver__X9_goesOn_65 k_4)
      exact pk_mono (w_f_X9_goesOn_250 h_12) (fun _ k => Fr_trans k_4 (Fr_mono fs_X9_goesOn_250__X9_goesOn_65 k))
  · exact pk_mono (w_f_X9_goesOn_116 h x1) (fun _ k => Fr_trans (Fr_refl _ h) (Fr_mono fs_X9_goesOn_116__X9_goesOn_65 k))
def S_X9_goesOn_49 : CL := [(0, 0, 15), (0, 0, 16), (0, 0, 17), (0, 0, 18), (0, 0, 25), (0, 0, 28), (0, 0, 36), (1, 0, 26), (1, 0, 27), (1, 0, 37), (1, 0, 38)]
theorem fm_X9_goesOn_49_0_0_28 : (0, 0, 28) ∈ S_X9_goesOn_49 := by decide
theorem fs_X9_waitsFor__X9_goesOn_49 : ∀ x ∈ S_X9_waitsFor, x ∈ S_X9_goesOn_49 := by decide
theorem fs_X9_goesOn_250__X9_goesOn_49 : ∀ x ∈ S_X9_goesOn_250, x ∈ S_X9_goesOn_49 := by decide
theorem w_f_X9_goesOn_49 (h : HS) : pk (f_X9_goesOn_49 h) (fun a => Fr S_X9_goesOn_49 h a) := by
  unfold f_X9_goesOn_49
  refine pk_ob1 (w_f_X9_waitsFor h (eI h 0 18)) (fun h_13 k_1 => ?_)
  replace k_1 := Fr_trans (Fr_refl _ h) (Fr_mono fs_X9_waitsFor__X9_goesOn_49 k_1)
  exact pk_mono (w_f_X9_goesOn_250 (sI h_13 0 28 1)) (fun _ k => Fr_trans (Fr_sI fm_X9_goesOn_49_0_0_28 k_1) (Fr_mono fs_X9_goesOn_250__X9_goesOn_49 k))
def S_X9_goesOn : CL := [(0, 0, 15), (0, 0, 16), (0, 0, 17), (0, 0, 18), (0, 0, 19), (0, 0, 20), (0, 0, 21), (0, 0, 22), (0, 0, 25), (0, 0, 28), (0, 0, 29), (0, 0, 36), (1, 0, 23), (1, 0, 24), (1, 0, 26), (1, 0, 27), (1, 0, 37), (1, 0, 38)]
theorem fs_X9_top__X9_goesOn : ∀ x ∈ S_X9_top, x ∈ S_X9_goesOn := by decide
theorem fs_X9_goesOn_49__X9_goesOn : ∀ x ∈ S_X9_goesOn_49, x ∈ S_X9_goesOn := by decide
theorem fs_X9_goesOn_65__X9_goesOn : ∀ x ∈ S_X9_goesOn_65, x ∈ S_X9_goesOn := by decide
theorem w_f_X9_goesOn (h : HS) : pk (f_X9_goesOn h) (fun a => Fr S_X9_goesOn h a) := by
  unfold f_X9_goesOn
  refine pk_ob2 (w_f_X9_top h) (fun r_1 h_1 k_1 => ?_)
  replace k_1 := Fr_trans (Fr_refl _ h) (Fr_mono fs_X9_top__X9_goesOn k_1)
  refine pk_if (fun _ => ?_) (fun _ => ?_)
  · refine pk_if (fun _ => ?_) (fun _ => ?_)
    · exact pk_mono (w_f_X9_goesOn_49 h_1) (fun _ k => Fr_trans k_1 (Fr_mono fs_X9_goesOn_49__X9_goesOn k))
    · refine pk_if (fun _ => ?_) (fun _ => ?_)
      · exact pk_mono (w_f_X9_goesOn_49 h_1) (fun _ k => Fr_trans k_1 (Fr_mono fs_X9_goesOn_49__X9_goesOn k))
      · refine pk_if (fun _ => ?_) (fun _ => ?_)
        · exact pk_mono (w_f_X9_goesOn_49 h_1) (fun _ k => Fr_trans k_1 (Fr_mono fs_X9_goesOn_49__X9_goesOn k))
        · refine pk_if (fun _ => ?_) (fun _ => ?_)
          · exact pk_mono (w_f_X9_goesOn_49 h_1) (fun _ k => Fr_trans k_1 (Fr_mono fs_X9_goesOn_49__X9_goesOn k))
          · exact pk_mono (w_f_X9_goesOn_65 h_1 r_1) (fun _ k => Fr_trans k_1 (Fr_mono fs_X9_goesOn_65__X9_goesOn k))
  · exact pk_mono (w_f_X9_goesOn_65 h_1 r_1) (fun _ k => Fr_trans k_1 (Fr_mono fs_X9_goesOn_65__X9_goesOn k))
def S_X9_asksOn_77 : CL := []
theorem w_f_X9_asksOn_77 (h : HS) : pk (f_X9_asksOn_77 h) (fun a => Fr S_X9_asksOn_77 h a) := by
  unfold f_X9_asksOn_77
  exact pk_some (Fr_refl _ h)
def S_X9_asksOn_37 : CL := [(0, 0, 15), (0, 0, 16), (0, 0, 17), (0, 0, 18), (0, 0, 25), (0, 0, 28), (0, 0, 36), (1, 0, 26), (1, 0, 27), (1, 0, 37), (1, 0, 38)]
theorem fm_X9_asksOn_37_0_0_28 : (0, 0, 28) ∈ S_X9_asksOn_37 := by decide
theorem fs_X9_waitsFor__X9_asksOn_37 : ∀ x ∈ S_X9_waitsFor, x ∈ S_X9_asksOn_37 := by decide
theorem fs_X9_asksOn_77__X9_asksOn_37 : ∀ x ∈ S_X9_asksOn_77, x ∈ S_X9_asksOn_37 := by decide
theorem w_f_X9_asksOn_37 (h : HS) (y0 : Int32) : pk (f_X9_asksOn_37 h y0) (fun a => Fr S_X9_asksOn_37 h a) := by
  unfold f_X9_asksOn_37
  refine pk_ob1 (w_f_X9_waitsFor h y0) (fun h_13 k_1 => ?_)
  replace k_1 := Fr_trans (Fr_refl _ h) (Fr_mono fs_X9_waitsFor__X9_asksOn_37 k_1)
  exact pk_mono (w_f_X9_asksOn_77 (sI h_13 0 28 0)) (fun _ k => Fr_trans (Fr_sI fm_X9_asksOn_37_0_0_28 k_1) (Fr_mono fs_X9_asksOn_77__X9_asksOn_37 k))
def S_X9_asksOn_18 : CL := [(0, 0, 15), (0, 0, 16), (0, 0, 17), (0, 0, 18), (0, 0, 25), (0, 0, 28), (0, 0, 36), (1, 0, 26), (1, 0, 27), (1, 0, 37), (1, 0, 38)]
theorem fs_X9_isWord__X9_asksOn_18 : ∀ x ∈ S_X9_isWord, x ∈ S_X9_asksOn_18 := by decide
theorem fs_X9_asksOn_37__X9_asksOn_18 : ∀ x ∈ S_X9_asksOn_37, x ∈ S_X9_asksOn_18 := by decide
theorem w_f_X9_asksOn_18 (h : HS) : pk (f_X9_asksOn_18 h) (fun a => Fr S_X9_asksOn_18 h a) := by
  unfold f_X9_asksOn_18
  refine pk_ob2 (w_f_X9_isWord h 10) (fun r_10 h_10 k_1 => ?_)
  replace k_1 := Fr_trans (Fr_refl _ h) (Fr_mono fs_X9_isWord__X9_asksOn_18 k_1)
  refine pk_if (fun _ => ?_) (fun _ => ?_)
  · exact pk_mono (w_f_X9_asksOn_37 h_10 406) (fun _ k => Fr_trans k_1 (Fr_mono fs_X9_asksOn_37__X9_asksOn_18 k))
  · exact pk_mono (w_f_X9_asksOn_37 h_10 407) (fun _ k => Fr_trans k_1 (Fr_mono fs_X9_asksOn_37__X9_asksOn_18 k))
def S_X9_asksOn_72 : CL := [(0, 0, 19), (0, 0, 20)]
theorem fs_X9_errs__X9_asksOn_72 : ∀ x ∈ S_X9_errs, x ∈ S_X9_asksOn_72 := by decide
theorem fs_X9_asksOn_77__X9_asksOn_72 : ∀ x ∈ S_X9_asksOn_77, x ∈ S_X9_asksOn_72 := by decide
theorem w_f_X9_asksOn_72 (h : HS) : pk (f_X9_asksOn_72 h) (fun a => Fr S_X9_asksOn_72 h a) := by
  unfold f_X9_asksOn_72
  refine pk_ob1 (w_f_X9_errs h 1) (fun h_12 k_1 => ?_)
  replace k_1 := Fr_trans (Fr_refl _ h) (Fr_mono fs_X9_errs__X9_asksOn_72 k_1)
  exact pk_mono (w_f_X9_asksOn_77 h_12) (fun _ k => Fr_trans k_1 (Fr_mono fs_X9_asksOn_77__X9_asksOn_72 k))
def S_X9_asksOn : CL := [(0, 0, 15), (0, 0, 16), (0, 0, 17), (0, 0, 18), (0, 0, 19), (0, 0, 20), (0, 0, 22), (0, 0, 25), (0, 0, 28), (0, 0, 29), (0, 0, 36), (1, 0, 26), (1, 0, 27), (1, 0, 37), (1, 0, 38)]
theorem fs_X9_isWord__X9_asksOn : ∀ x ∈ S_X9_isWord, x ∈ S_X9_asksOn := by decide
theorem fs_X9_top__X9_asksOn : ∀ x ∈ S_X9_top, x ∈ S_X9_asksOn := by decide
theorem fs_X9_isSign__X9_asksOn : ∀ x ∈ S_X9_isSign, x ∈ S_X9_asksOn := by decide
theorem fs_X9_asksOn_72__X9_asksOn : ∀ x ∈ S_X9_asksOn_72, x ∈ S_X9_asksOn := by decide
theorem fs_X9_clauseIsOver__X9_asksOn : ∀ x ∈ S_X9_clauseIsOver, x ∈ S_X9_asksOn := by decide
theorem fs_X9_asksOn_77__X9_asksOn : ∀ x ∈ S_X9_asksOn_77, x ∈ S_X9_asksOn := by decide
theorem fs_X9_asksOn_18__X9_asksOn : ∀ x ∈ S_X9_asksOn_18, x ∈ S_X9_asksOn := by decide
theorem w_f_X9_asksOn (h : HS) : pk (f_X9_asksOn h) (fun a => Fr S_X9_asksOn h a) := by
  unfold f_X9_asksOn
  refine pk_ob2 (w_f_X9_isWord h 10) (fun r_1 h_1 k_1 => ?_)
  replace k_1 := Fr_trans (Fr_refl _ h) (Fr_mono fs_X9_isWord__X9_asksOn k_1)
  refine pk_if (fun _ => ?_) (fun _ => ?_)
  · refine pk_ob2 (w_f_X9_isWord h_1 11) (fun r_3 h_3 k_2 => ?_)
    replace k_2 := Fr_trans k_1 (Fr_mono fs_X9_isWord__X9_asksOn k_2)
    refine pk_if (fun _ => ?_) (fun _ => ?_)
    · refine pk_ob2 (w_f_X9_top h_3) (fun r_5 h_5 k_3 => ?_)
      replace k_3 := Fr_trans k_2 (Fr_mono fs_X9_top__X9_asksOn k_3)
      refine pk_if (fun _ => ?_) (fun _ => ?_)
      · refine pk_ob2 (w_f_X9_isSign h_5 59) (fun r_7 h_7 k_4 => ?_)
        replace k_4 := Fr_trans k_3 (Fr_mono fs_X9_isSign__X9_asksOn k_4)
        refine pk_if (fun _ => ?_) (fun _ => ?_)
        · exact pk_mono (w_f_X9_asksOn_72 h_7) (fun _ k => Fr_trans k_4 (Fr_mono fs_X9_asksOn_72__X9_asksOn k))
        · refine pk_ob1 (w_f_X9_clauseIsOver h_7) (fun h_9 k_5 => ?_)
          replace k_5 := Fr_trans k_4 (Fr_mono fs_X9_clauseIsOver__X9_asksOn k_5)
          exact pk_mono (w_f_X9_asksOn_77 h_9) (fun _ k => Fr_trans k_5 (Fr_mono fs_X9_asksOn_77__X9_asksOn k))
      · exact pk_mono (w_f_X9_asksOn_72 h_5) (fun _ k => Fr_trans k_3 (Fr_mono fs_X9_asksOn_72__X9_asksOn k))
    · exact pk_mono (w_f_X9_asksOn_18 h_3) (fun _ k => Fr_trans k_2 (Fr_mono fs_X9_asksOn_18__X9_asksOn k))
  · exact pk_mono (w_f_X9_asksOn_18 h_1) (fun _ k => Fr_trans k_1 (Fr_mono fs_X9_asksOn_18__X9_asksOn k))
def S_X9_number_15 : CL := [(0, 0, 19), (0, 0, 20)]
theorem fs_X9_errs__X9_number_15 : ∀ x ∈ S_X9_errs, x ∈ S_X9_number_15 := by decide
theorem w_f_X9_number_15 (h : HS) (x1 : Int32) : pk (f_X9_number_15 h x1) (fun a => Fr S_X9_number_15 h a.2) := by
  unfold f_X9_number_15
  refine pk_ob1 (w_f_X9_errs h 1) (fun h_7 k_1 => ?_)
  replace k_1 := Fr_trans (Fr_refl _ h) (Fr_mono fs_X9_errs__X9_number_15 k_1)
  exact pk_some k_1
def S_X9_number : CL := [(0, 0, 15), (0, 0, 16), (0, 0, 17), (0, 0, 18), (0, 0, 19), (0, 0, 20)]
theorem fs_X9_number_15__X9_number : ∀ x ∈ S_X9_number_15, x ∈ S_X9_number := by decide
theorem fs_X9_errs__X9_number : ∀ x ∈ S_X9_errs, x ∈ S_X9_number := by decide
theorem fs_X9_next__X9_number : ∀ x ∈ S_X9_next, x ∈ S_X9_number := by decide
theorem w_f_X9_number (h : HS) (p1 : Int32) (p2 : Int32) : pk (f_X9_number h p1 p2) (fun a => Fr S_X9_number h a.2) := by
  unfold f_X9_number
  refine pk_if (fun _ => ?_) (fun _ => ?_)
  · exact pk_mono (w_f_X9_number_15 h p1) (fun _ k => Fr_trans (Fr_refl _ h) (Fr_mono fs_X9_number_15__X9_number k))
  · refine pk_if (fun _ => ?_) (fun _ => ?_)
    · refine pk_obf (fun r_3 => ?_)
      refine pk_if (fun _ => ?_) (fun _ => ?_)
      · refine pk_ob1 (w_f_X9_errs h 2) (fun h_6 k_1 => ?_)
        replace k_1 := Fr_trans (Fr_refl _ h) (Fr_mono fs_X9_errs__X9_number k_1)
        exact pk_some k_1
      · refine pk_ob1 (w_f_X9_next h) (fun h_5 k_2 => ?_)
        replace k_2 := Fr_trans (Fr_refl _ h) (Fr_mono fs_X9_next__X9_number k_2)
        exact pk_some k_2
    · exact pk_mono (w_f_X9_number_15 h p1) (fun _ k => Fr_trans (Fr_refl _ h) (Fr_mono fs_X9_number_15__X9_number k))
def S_X9_wasTold_4 : CL := []
theorem w_f_X9_wasTold_31 (k4 : HS → Int32 → Int32 → Int32 → Option (Int32 × HS)) (hk_k4 : ∀ (h : HS) (x0 : Int32) (x1 : Int32) (x2 : Int32), pk (k4 h x0 x1 x2) (fun a => Fr S_X9_wasTold_4 h a.2)) (h : HS) (x1 : Int32) (x3 : Int32) (y0 : Int32) : pk (f_X9_wasTold_31 k4 h x1 x3 y0) (fun a => Fr S_X9_wasTold_4 h a.2) := by
  unfold f_X9_wasTold_31
  exact pk_mono (hk_k4 h x1 y0 (x3 + 1)) (fun _ k => Fr_trans (Fr_refl _ h) k)
theorem w_f_X9_wasTold_26 (k4 : HS → Int32 → Int32 → Int32 → Option (Int32 × HS)) (hk_k4 : ∀ (h : HS) (x0 : Int32) (x1 : Int32) (x2 : Int32), pk (k4 h x0 x1 x2) (fun a => Fr S_X9_wasTold_4 h a.2)) (h : HS) (x1 : Int32) (x3 : Int32) : pk (f_X9_wasTold_26 k4 h x1 x3) (fun a => Fr S_X9_wasTold_4 h a.2) := by
  unfold f_X9_wasTold_26
  exact pk_mono (w_f_X9_wasTold_31 k4 hk_k4 h x1 x3 1) (fun _ k => Fr_trans (Fr_refl _ h) k)
theorem w_f_X9_wasTold_4  : ∀ (n : Nat) (h : HS) (x1 : Int32) (x2 : Int32) (x3 : Int32), pk (f_X9_wasTold_4  n h x1 x2 x3) (fun a => Fr S_X9_wasTold_4 h a.2) := by
  intro n
  induction n with
  | zero => intro h x1 x2 x3; exact pk_none
  | succ n ih =>
    intro h x1 x2 x3
    rw [f_X9_wasTold_4_s]
    refine pk_if (fun _ => ?_) (fun _ => ?_)
    · refine pk_chk (fun _ => ?_)
      exact pk_some (Fr_refl _ h)
    · refine pk_if (fun _ => ?_) (fun _ => ?_)
      · refine pk_chk (fun _ => ?_)
        refine pk_if (fun _ => ?_) (fun _ => ?_)
        · exact pk_mono (w_f_X9_wasTold_26 (f_X9_wasTold_4 n) ih h x1 x3) (fun _ k => Fr_trans (Fr_refl _ h) k)
        · exact pk_mono (w_f_X9_wasTold_31 (f_X9_wasTold_4 n) ih h x1 x3 0) (fun _ k => Fr_trans (Fr_refl _ h) k)
      · exact pk_mono (w_f_X9_wasTold_26 (f_X9_wasTold_4 n) ih h x1 x3) (fun _ k => Fr_trans (Fr_refl _ h) k)
def S_X9_wasTold : CL := []
theorem fs_X9_wasTold_4__X9_wasTold : ∀ x ∈ S_X9_wasTold_4, x ∈ S_X9_wasTold := by decide
theorem w_f_X9_wasTold (h : HS) (p1 : Int32) : pk (f_X9_wasTold h p1) (fun a => Fr S_X9_wasTold h a.2) := by
  unfold f_X9_wasTold
  exact pk_mono (w_f_X9_wasTold_4 8589934592 h p1 0 0) (fun _ k => Fr_trans (Fr_refl _ h) (Fr_mono fs_X9_wasTold_4__X9_wasTold k))
def S_X9_wants_31 : CL := []
theorem w_f_X9_wants_31 (h : HS) : pk (f_X9_wants_31 h) (fun a => Fr S_X9_wants_31 h a) := by
  unfold f_X9_wants_31
  exact pk_some (Fr_refl _ h)
def S_X9_wants_20 : CL := [(0, 0, 15), (0, 0, 16), (0, 0, 17), (0, 0, 18)]
theorem fs_X9_next__X9_wants_20 : ∀ x ∈ S_X9_next, x ∈ S_X9_wants_20 := by decide
theorem fs_X9_wants_31__X9_wants_20 : ∀ x ∈ S_X9_wants_31, x ∈ S_X9_wants_20 := by decide
theorem w_f_X9_wants_20 (h : HS) : pk (f_X9_wants_20 h) (fun a => Fr S_X9_wants_20 h a) := by
  unfold f_X9_wants_20
  refine pk_if (fun _ => ?_) (fun _ => ?_)
  · refine pk_ob1 (w_f_X9_next h) (fun h_6 k_1 => ?_)
    replace k_1 := Fr_trans (Fr_refl _ h) (Fr_mono fs_X9_next__X9_wants_20 k_1)
    exact pk_mono (w_f_X9_wants_31 h_6) (fun _ k => Fr_trans k_1 (Fr_mono fs_X9_wants_31__X9_wants_20 k))
  · exact pk_mono (w_f_X9_wants_31 h) (fun _ k => Fr_trans (Fr_refl _ h) (Fr_mono fs_X9_wants_31__X9_wants_20 k))
def S_X9_wants : CL := [(0, 0, 15), (0, 0, 16), (0, 0, 17), (0, 0, 18), (0, 0, 19), (0, 0, 20)]
theorem fs_X9_isWord__X9_wants : ∀ x ∈ S_X9_isWord, x ∈ S_X9_wants := by decide
theorem fs_X9_errs__X9_wants : ∀ x ∈ S_X9_errs, x ∈ S_X9_wants := by decide
theorem fs_X9_wants_20__X9_wants : ∀ x ∈ S_X9_wants_20, x ∈ S_X9_wants := by decide
theorem w_f_X9_wants (h : HS) (p1 : Int32) : pk (f_X9_wants h p1) (fun a => Fr S_X9_wants h a) := by
  unfold f_X9_wants
  refine pk_if (fun _ => ?_) (fun _ => ?_)
  · refine pk_ob2 (w_f_X9_isWord h p1) (fun r_2 h_2 k_1 => ?_)
    replace k_1 := Fr_trans (Fr_refl _ h) (Fr_mono fs_X9_isWord__X9_wants k_1)
    refine pk_if (fun _ => ?_) (fun _ => ?_)
    · refine pk_ob1 (w_f_X9_errs h_2 1) (fun h_4 k_2 => ?_)
      replace k_2 := Fr_trans k_1 (Fr_mono fs_X9_errs__X9_wants k_2)
      exact pk_mono (w_f_X9_wants_20 h_4) (fun _ k => Fr_trans k_2 (Fr_mono fs_X9_wants_20__X9_wants k))
    · exact pk_mono (w_f_X9_wants_20 h_2) (fun _ k => Fr_trans k_1 (Fr_mono fs_X9_wants_20__X9_wants k))
  · exact pk_mono (w_f_X9_wants_20 h) (fun _ k => Fr_trans (Fr_refl _ h) (Fr_mono fs_X9_wants_20__X9_wants k))
def S_X9_clause_17 : CL := [(0, 0, 19), (0, 0, 20)]
theorem fs_X9_errs__X9_clause_17 : ∀ x ∈ S_X9_errs, x ∈ S_X9_clause_17 := by decide
theorem w_f_X9_clause_17 (h : HS) : pk (f_X9_clause_17 h) (fun a => Fr S_X9_clause_17 h a) := by
  unfold f_X9_clause_17
  refine pk_ob1 (w_f_X9_errs h 1) (fun h_7 k_1 => ?_)
  replace k_1 := Fr_trans (Fr_refl _ h) (Fr_mono fs_X9_errs__X9_clause_17 k_1)
  exact pk_some k_1
def S_X9_clause_333 : CL := []
theorem w_f_X9_clause_333 (h : HS) : pk (f_X9_clause_333 h) (fun a => Fr S_X9_clause_333 h a) := by
  unfold f_X9_clause_333
  exact pk_some (Fr_refl _ h)
def S_X9_clause_322 : CL := [(0, 0, 15), (0, 0, 16), (0, 0, 17), (0, 0, 18), (0, 0, 22), (0, 0, 25), (0, 0, 28), (0, 0, 29), (0, 0, 36), (1, 0, 37), (1, 0, 38)]
theorem fs_X9_clauseIsOver__X9_clause_322 : ∀ x ∈ S_X9_clauseIsOver, x ∈ S_X9_clause_322 := by decide
theorem fs_X9_clause_333__X9_clause_322 : ∀ x ∈ S_X9_clause_333, x ∈ S_X9_clause_322 := by decide
theorem w_f_X9_clause_322 (h : HS) : pk (f_X9_clause_322 h) (fun a => Fr S_X9_clause_322 h a) := by
  unfold f_X9_clause_322
  refine pk_if (fun _ => ?_) (fun _ => ?_)
  · refine pk_ob1 (w_f_X9_clauseIsOver h) (fun h_41 k_1 => ?_)
    replace k_1 := Fr_trans (Fr_refl _ h) (Fr_mono fs_X9_clauseIsOver__X9_clause_322 k_1)
    exact pk_mono (w_f_X9_clause_333 h_41) (fun _ k => Fr_trans k_1 (Fr_mono fs_X9_clause_333__X9_clause_322 k))
  · exact pk_mono (w_f_X9_clause_333 h) (fun _ k => Fr_trans (Fr_refl _ h) (Fr_mono fs_X9_clause_333__X9_clause_322 k))
def S_X9_clause_301 : CL := [(0, 0, 15), (0, 0, 16), (0, 0, 17), (0, 0, 18), (0, 0, 19), (0, 0, 20), (0, 0, 22), (0, 0, 25), (0, 0, 28), (0, 0, 29), (0, 0, 36), (1, 0, 37), (1, 0, 38)]
theorem fs_X9_isSign__X9_clause_301 : ∀ x ∈ S_X9_isSign, x ∈ S_X9_clause_301 := by decide
theorem fs_X9_errs__X9_clause_301 : ∀ x ∈ S_X9_errs, x ∈ S_X9_clause_301 := by decide
theorem fs_X9_clause_322__X9_clause_301 : ∀ x ∈ S_X9_clause_322, x ∈ S_X9_clause_301 := by decide
theorem w_f_X9_clause_301 (h : HS) : pk (f_X9_clause_301 h) (fun a => Fr S_X9_clause_301 h a) := by
  unfold f_X9_clause_301
  refine pk_if (fun _ => ?_) (fun _ => ?_)
  · refine pk_ob2 (w_f_X9_isSign h 59) (fun r_37 h_37 k_1 => ?_)
    replace k_1 := Fr_trans (Fr_refl _ h) (Fr_mono fs_X9_isSign__X9_clause_301 k_1)
    refine pk_if (fun _ => ?_) (fun _ => ?_)
    · refine pk_ob1 (w_f_X9_errs h_37 1) (fun h_39 k_2 => ?_)
      replace k_2 := Fr_trans k_1 (Fr_mono fs_X9_errs__X9_clause_301 k_2)
      exact pk_mono (w_f_X9_clause_322 h_39) (fun _ k => Fr_trans k_2 (Fr_mono fs_X9_clause_322__X9_clause_301 k))
    · exact pk_mono (w_f_X9_clause_322 h_37) (fun _ k => Fr_trans k_1 (Fr_mono fs_X9_clause_322__X9_clause_301 k))
  · exact pk_mono (w_f_X9_clause_322 h) (fun _ k => Fr_trans (Fr_refl _ h) (Fr_mono fs_X9_clause_322__X9_clause_301 k))
def S_X9_clause_218 : CL := [(0, 0, 15), (0, 0, 16), (0, 0, 17), (0, 0, 18), (0, 0, 19), (0, 0, 20), (0, 0, 22), (0, 0, 25), (0, 0, 28), (0, 0, 29), (0, 0, 36), (1, 0, 33), (1, 0, 34), (1, 0, 35), (1, 0, 37), (1, 0, 38)]
theorem fm_X9_clause_218_1_0_33 : (1, 0, 33) ∈ S_X9_clause_218 := by decide
theorem fm_X9_clause_218_1_0_34 : (1, 0, 34) ∈ S_X9_clause_218 := by decide
theorem fm_X9_clause_218_1_0_35 : (1, 0, 35) ∈ S_X9_clause_218 := by decide
theorem fs_X9_wants__X9_clause_218 : ∀ x ∈ S_X9_wants, x ∈ S_X9_clause_218 := by decide
theorem fs_X9_number__X9_clause_218 : ∀ x ∈ S_X9_number, x ∈ S_X9_clause_218 := by decide
theorem fs_X9_clause_301__X9_clause_218 : ∀ x ∈ S_X9_clause_301, x ∈ S_X9_clause_218 := by decide
theorem w_f_X9_clause_218 (h : HS) (y0 : Int32) (y1 : Int32) : pk (f_X9_clause_218 h y0 y1) (fun a => Fr S_X9_clause_218 h a) := by
  unfold f_X9_clause_218
  refine pk_chk (fun _ => ?_)
  refine pk_if (fun _ => ?_) (fun _ => ?_)
  · refine pk_ob1 (w_f_X9_wants (sA h 0 33 (upd (eA h 0 33) ((y1).toNatClampNeg) y0)) 8) (fun h_28 k_1 => ?_)
    replace k_1 := Fr_trans (Fr_sA fm_X9_clause_218_1_0_33 (Fr_refl _ h)) (Fr_mono fs_X9_wants__X9_clause_218 k_1)
    refine pk_ob2 (w_f_X9_number h_28 0 5) (fun r_29 h_29 k_2 => ?_)
    replace k_2 := Fr_trans k_1 (Fr_mono fs_X9_number__X9_clause_218 k_2)
    refine pk_chk (fun _ => ?_)
    refine pk_ob1 (w_f_X9_wants (sA h_29 0 34 (upd (eA h_29 0 34) (((eI h_28 0 29)).toNatClampNeg) r_29)) 17) (fun h_31 k_3 => ?_)
    replace k_3 := Fr_trans (Fr_sA fm_X9_clause_218_1_0_34 k_2) (Fr_mono fs_X9_wants__X9_clause_218 k_3)
    refine pk_ob2 (w_f_X9_number h_31 0 2) (fun r_32 h_32 k_4 => ?_)
    replace k_4 := Fr_trans k_3 (Fr_mono fs_X9_number__X9_clause_218 k_4)
    refine pk_chk (fun _ => ?_)
    exact pk_mono (w_f_X9_clause_301 (sA h_32 0 35 (upd (eA h_32 0 35) (((eI h_31 0 29)).toNatClampNeg) r_32))) (fun _ k => Fr_trans (Fr_sA fm_X9_clause_218_1_0_35 k_4) (Fr_mono fs_X9_clause_301__X9_clause_218 k))
  · refine pk_if (fun _ => ?_) (fun _ => ?_)
    · refine pk_ob1 (w_f_X9_wants (sA h 0 33 (upd (eA h 0 33) ((y1).toNatClampNeg) y0)) 9) (fun h_25 k_5 => ?_)
      replace k_5 := Fr_trans (Fr_sA fm_X9_clause_218_1_0_33 (Fr_refl _ h)) (Fr_mono fs_X9_wants__X9_clause_218 k_5)
      refine pk_ob2 (w_f_X9_number h_25 0 3) (fun r_26 h_26 k_6 => ?_)
      replace k_6 := Fr_trans k_5 (Fr_mono fs_X9_number__X9_clause_218 k_6)
      refine pk_chk (fun _ => ?_)
      exact pk_mono (w_f_X9_clause_301 (sA h_26 0 34 (upd (eA h_26 0 34) (((eI h_25 0 29)).toNatClampNeg) r_26))) (fun _ k => Fr_trans (Fr_sA fm_X9_clause_218_1_0_34 k_6) (Fr_mono fs_X9_clause_301__X9_clause_218 k))
    · exact pk_mono (w_f_X9_clause_301 (sA h 0 33 (upd (eA h 0 33) ((y1).toNatClampNeg) y0))) (fun _ k => Fr_trans (Fr_sA fm_X9_clause_218_1_0_33 (Fr_refl _ h)) (Fr_mono fs_X9_clause_301__X9_clause_218 k))
def S_X9_clause_180 : CL := [(0, 0, 28)]
theorem fm_X9_clause_180_0_0_28 : (0, 0, 28) ∈ S_X9_clause_180 := by decide
theorem w_f_X9_clause_180 (h : HS) (y0 : Int32) : pk (f_X9_clause_180 h y0) (fun a => Fr S_X9_clause_180 h a) := by
  unfold f_X9_clause_180
  exact pk_some (Fr_sI fm_X9_clause_180_0_0_28 (Fr_refl _ h))
def S_X9_clause_163 : CL := [(0, 0, 22), (0, 0, 28), (1, 0, 23)]
theorem fs_X9_opensFrame__X9_clause_163 : ∀ x ∈ S_X9_opensFrame, x ∈ S_X9_clause_163 := by decide
theorem fs_X9_clause_180__X9_clause_163 : ∀ x ∈ S_X9_clause_180, x ∈ S_X9_clause_163 := by decide
theorem w_f_X9_clause_163 (h : HS) (y0 : Int32) : pk (f_X9_clause_163 h y0) (fun a => Fr S_X9_clause_163 h a) := by
  unfold f_X9_clause_163
  refine pk_ob1 (w_f_X9_opensFrame h y0) (fun h_34 k_1 => ?_)
  replace k_1 := Fr_trans (Fr_refl _ h) (Fr_mono fs_X9_opensFrame__X9_clause_163 k_1)
  refine pk_if (fun _ => ?_) (fun _ => ?_)
  · exact pk_mono (w_f_X9_clause_180 h_34 0) (fun _ k => Fr_trans k_1 (Fr_mono fs_X9_clause_180__X9_clause_163 k))
  · exact pk_mono (w_f_X9_clause_180 h_34 1) (fun _ k => Fr_trans k_1 (Fr_mono fs_X9_clause_180__X9_clause_163 k))
def S_X9_clause_73 : CL := [(0, 0, 15), (0, 0, 16), (0, 0, 17), (0, 0, 18), (0, 0, 19), (0, 0, 20), (0, 0, 22), (0, 0, 25), (0, 0, 28), (0, 0, 29), (0, 0, 36), (1, 0, 23), (1, 0, 31), (1, 0, 32), (1, 0, 33), (1, 0, 34), (1, 0, 35), (1, 0, 37), (1, 0, 38)]
theorem fm_X9_clause_73_1_0_35 : (1, 0, 35) ∈ S_X9_clause_73 := by decide
theorem fm_X9_clause_73_1_0_34 : (1, 0, 34) ∈ S_X9_clause_73 := by decide
theorem fm_X9_clause_73_1_0_33 : (1, 0, 33) ∈ S_X9_clause_73 := by decide
theorem fm_X9_clause_73_1_0_32 : (1, 0, 32) ∈ S_X9_clause_73 := by decide
theorem fm_X9_clause_73_1_0_31 : (1, 0, 31) ∈ S_X9_clause_73 := by decide
theorem fs_X9_next__X9_clause_73 : ∀ x ∈ S_X9_next, x ∈ S_X9_clause_73 := by decide
theorem fs_X9_number__X9_clause_73 : ∀ x ∈ S_X9_number, x ∈ S_X9_clause_73 := by decide
theorem fs_X9_clause_218__X9_clause_73 : ∀ x ∈ S_X9_clause_218, x ∈ S_X9_clause_73 := by decide
theorem fs_X9_clause_163__X9_clause_73 : ∀ x ∈ S_X9_clause_163, x ∈ S_X9_clause_73 := by decide
theorem w_f_X9_clause_73 (h : HS) : pk (f_X9_clause_73 h) (fun a => Fr S_X9_clause_73 h a) := by
  unfold f_X9_clause_73
  refine pk_if (fun _ => ?_) (fun _ => ?_)
  · refine pk_chk (fun _ => ?_)
    refine pk_chk (fun _ => ?_)
    refine pk_chk (fun _ => ?_)
    refine pk_chk (fun _ => ?_)
    refine pk_chk (fun _ => ?_)
    refine pk_ob1 (w_f_X9_next (sA (sA (sA (sA (sA h 0 31 (upd (eA h 0 31) (((eI h 0 29)).toNatClampNeg) (eI h 0 30))) 0 32 (upd (eA h 0 32) (((eI h 0 29)).toNatClampNeg) (eI h 0 36))) 0 33 (upd (eA h 0 33) (((eI h 0 29)).toNatClampNeg) (-1))) 0 34 (upd (eA h 0 34) (((eI h 0 29)).toNatClampNeg) (-1))) 0 35 (upd (eA h 0 35) (((eI h 0 29)).toNatClampNeg) (-1)))) (fun h_16 k_1 => ?_)
    replace k_1 := Fr_trans (Fr_sA fm_X9_clause_73_1_0_35 (Fr_sA fm_X9_clause_73_1_0_34 (Fr_sA fm_X9_clause_73_1_0_33 (Fr_sA fm_X9_clause_73_1_0_32 (Fr_sA fm_X9_clause_73_1_0_31 (Fr_refl _ h)))))) (Fr_mono fs_X9_next__X9_clause_73 k_1)
    refine pk_if (fun _ => ?_) (fun _ => ?_)
    · refine pk_if (fun _ => ?_) (fun _ => ?_)
      · refine pk_ob2 (w_f_X9_number h_16 1 99) (fun r_20 h_20 k_2 => ?_)
        replace k_2 := Fr_trans k_1 (Fr_mono fs_X9_number__X9_clause_73 k_2)
        exact pk_mono (w_f_X9_clause_218 h_20 r_20 (eI h_16 0 29)) (fun _ k => Fr_trans k_2 (Fr_mono fs_X9_clause_218__X9_clause_73 k))
      · refine pk_ob2 (w_f_X9_number h_16 0 9) (fun r_19 h_19 k_3 => ?_)
        replace k_3 := Fr_trans k_1 (Fr_mono fs_X9_number__X9_clause_73 k_3)
        exact pk_mono (w_f_X9_clause_218 h_19 r_19 (eI h_16 0 29)) (fun _ k => Fr_trans k_3 (Fr_mono fs_X9_clause_218__X9_clause_73 k))
    · refine pk_if (fun _ => ?_) (fun _ => ?_)
      · exact pk_mono (w_f_X9_clause_163 h_16 2) (fun _ k => Fr_trans k_1 (Fr_mono fs_X9_clause_163__X9_clause_73 k))
      · exact pk_mono (w_f_X9_clause_163 h_16 1) (fun _ k => Fr_trans k_1 (Fr_mono fs_X9_clause_163__X9_clause_73 k))
  · exact pk_some (Fr_refl _ h)
def S_X9_clause_58 : CL := [(0, 0, 15), (0, 0, 16), (0, 0, 17), (0, 0, 18), (0, 0, 19), (0, 0, 20), (0, 0, 22), (0, 0, 25), (0, 0, 28), (0, 0, 29), (0, 0, 36), (1, 0, 23), (1, 0, 31), (1, 0, 32), (1, 0, 33), (1, 0, 34), (1, 0, 35), (1, 0, 37), (1, 0, 38)]
theorem fs_X9_errs__X9_clause_58 : ∀ x ∈ S_X9_errs, x ∈ S_X9_clause_58 := by decide
theorem fs_X9_clause_73__X9_clause_58 : ∀ x ∈ S_X9_clause_73, x ∈ S_X9_clause_58 := by decide
theorem w_f_X9_clause_58 (h : HS) : pk (f_X9_clause_58 h) (fun a => Fr S_X9_clause_58 h a) := by
  unfold f_X9_clause_58
  refine pk_if (fun _ => ?_) (fun _ => ?_)
  · refine pk_ob1 (w_f_X9_errs h 6) (fun h_9 k_1 => ?_)
    replace k_1 := Fr_trans (Fr_refl _ h) (Fr_mono fs_X9_errs__X9_clause_58 k_1)
    exact pk_mono (w_f_X9_clause_73 h_9) (fun _ k => Fr_trans k_1 (Fr_mono fs_X9_clause_73__X9_clause_58 k))
  · exact pk_mono (w_f_X9_clause_73 h) (fun _ k => Fr_trans (Fr_refl _ h) (Fr_mono fs_X9_clause_73__X9_clause_58 k))
def S_X9_clause : CL := [(0, 0, 15), (0, 0, 16), (0, 0, 17), (0, 0, 18), (0, 0, 19), (0, 0, 20), (0, 0, 22), (0, 0, 25), (0, 0, 28), (0, 0, 29), (0, 0, 30), (0, 0, 36), (1, 0, 23), (1, 0, 31), (1, 0, 32), (1, 0, 33), (1, 0, 34), (1, 0, 35), (1, 0, 37), (1, 0, 38)]
theorem fm_X9_clause_0_0_30 : (0, 0, 30) ∈ S_X9_clause := by decide
theorem fs_X9_clause_58__X9_clause : ∀ x ∈ S_X9_clause_58, x ∈ S_X9_clause := by decide
theorem fs_X9_wasTold__X9_clause : ∀ x ∈ S_X9_wasTold, x ∈ S_X9_clause := by decide
theorem fs_X9_errs__X9_clause : ∀ x ∈ S_X9_errs, x ∈ S_X9_clause := by decide
theorem fs_X9_clause_73__X9_clause : ∀ x ∈ S_X9_clause_73, x ∈ S_X9_clause := by decide
theorem fs_X9_clause_17__X9_clause : ∀ x ∈ S_X9_clause_17, x ∈ S_X9_clause := by decide
theorem w_f_X9_clause (h : HS) : pk (f_X9_clause h) (fun a => Fr S_X9_clause h a) := by
  unfold f_X9_clause
  refine pk_if (fun _ => ?_) (fun _ => ?_)
  · refine pk_if (fun _ => ?_) (fun _ => ?_)
    · refine pk_if (fun _ => ?_) (fun _ => ?_)
      · exact pk_mono (w_f_X9_clause_58 (sI h 0 30 (eI h 0 18))) (fun _ k => Fr_trans (Fr_sI fm_X9_clause_0_0_30 (Fr_refl _ h)) (Fr_mono fs_X9_clause_58__X9_clause k))
      · refine pk_ob2 (w_f_X9_wasTold (sI h 0 30 (eI h 0 18)) (eI h 0 18)) (fun r_4 h_4 k_1 => ?_)
        replace k_1 := Fr_trans (Fr_sI fm_X9_clause_0_0_30 (Fr_refl _ h)) (Fr_mono fs_X9_wasTold__X9_clause k_1)
        refine pk_if (fun _ => ?_) (fun _ => ?_)
        · exact pk_mono (w_f_X9_clause_58 h_4) (fun _ k => Fr_trans k_1 (Fr_mono fs_X9_clause_58__X9_clause k))
        · refine pk_ob1 (w_f_X9_errs h_4 4) (fun h_6 k_2 => ?_)
          replace k_2 := Fr_trans k_1 (Fr_mono fs_X9_errs__X9_clause k_2)
          exact pk_mono (w_f_X9_clause_73 h_6) (fun _ k => Fr_trans k_2 (Fr_mono fs_X9_clause_73__X9_clause k))
    · exact pk_mono (w_f_X9_clause_17 h) (fun _ k => Fr_trans (Fr_refl _ h) (Fr_mono fs_X9_clause_17__X9_clause k))
  · exact pk_mono (w_f_X9_clause_17 h) (fun _ k => Fr_trans (Fr_refl _ h) (Fr_mono fs_X9_clause_17__X9_clause k))
def S_X9_text_318 : CL := [(1, 0, 0), (1, 0, 12), (1, 0, 13)]
theorem fm_X9_text_318_1_0_0 : (1, 0, 0) ∈ S_X9_text_318 := by decide
theorem fm_X9_text_318_1_0_13 : (1, 0, 13) ∈ S_X9_text_318 := by decide
theorem fm_X9_text_318_1_0_12 : (1, 0, 12) ∈ S_X9_text_318 := by decide
theorem w_f_X9_text_318  : ∀ (n : Nat) (h : HS) (x1 : Int32) (x2 : Int32), pk (f_X9_text_318  n h x1 x2) (fun a => Fr S_X9_text_318 h a.2) := by
  intro n
  induction n with
  | zero => intro h x1 x2; exact pk_none
  | succ n ih =>
    intro h x1 x2
    rw [f_X9_text_318_s]
    refine pk_if (fun _ => ?_) (fun _ => ?_)
    · exact pk_some (Fr_sA fm_X9_text_318_1_0_0 (Fr_refl _ h))
    · refine pk_chk (fun _ => ?_)
      refine pk_chk (fun _ => ?_)
      refine pk_chk (fun _ => ?_)
      refine pk_chk (fun _ => ?_)
      exact pk_mono (ih (sA (sA h 0 12 (upd (eA h 0 12) ((((400 * x1) + x2)).toNatClampNeg) ((eA h 0 37) ((x2).toNatClampNeg)))) 0 13 (upd (eA h 0 13) ((((400 * x1) + x2)).toNatClampNeg) ((eA h 0 38) ((x2).toNatClampNeg)))) x1 (x2 + 1)) (fun _ k => Fr_trans (Fr_sA fm_X9_text_318_1_0_13 (Fr_sA fm_X9_text_318_1_0_12 (Fr_refl _ h))) k)
def S_X9_text_211 : CL := [(1, 0, 0), (1, 0, 7), (1, 0, 8), (1, 0, 9), (1, 0, 10), (1, 0, 11), (1, 0, 12), (1, 0, 13)]
theorem fm_X9_text_211_1_0_11 : (1, 0, 11) ∈ S_X9_text_211 := by decide
theorem fm_X9_text_211_1_0_10 : (1, 0, 10) ∈ S_X9_text_211 := by decide
theorem fm_X9_text_211_1_0_9 : (1, 0, 9) ∈ S_X9_text_211 := by decide
theorem fm_X9_text_211_1_0_8 : (1, 0, 8) ∈ S_X9_text_211 := by decide
theorem fm_X9_text_211_1_0_7 : (1, 0, 7) ∈ S_X9_text_211 := by decide
theorem fs_X9_text_318__X9_text_211 : ∀ x ∈ S_X9_text_318, x ∈ S_X9_text_211 := by decide
theorem w_f_X9_text_211  : ∀ (n : Nat) (h : HS) (x1 : Int32) (x2 : Int32), pk (f_X9_text_211  n h x1 x2) (fun a => Fr S_X9_text_211 h a.2) := by
  intro n
  induction n with
  | zero => intro h x1 x2; exact pk_none
  | succ n ih =>
    intro h x1 x2
    rw [f_X9_text_211_s]
    refine pk_if (fun _ => ?_) (fun _ => ?_)
    · exact pk_mono (w_f_X9_text_318 8589934592 h x1 0) (fun _ k => Fr_trans (Fr_refl _ h) (Fr_mono fs_X9_text_318__X9_text_211 k))
    · refine pk_chk (fun _ => ?_)
      refine pk_chk (fun _ => ?_)
      refine pk_chk (fun _ => ?_)
      refine pk_chk (fun _ => ?_)
      refine pk_chk (fun _ => ?_)
      refine pk_chk (fun _ => ?_)
      refine pk_chk (fun _ => ?_)
      refine pk_chk (fun _ => ?_)
      refine pk_chk (fun _ => ?_)
      refine pk_chk (fun _ => ?_)
      exact pk_mono (ih (sA (sA (sA (sA (sA h 0 7 (upd (eA h 0 7) ((((24 * x1) + x2)).toNatClampNeg) ((eA h 0 31) ((x2).toNatClampNeg)))) 0 8 (upd (eA h 0 8) ((((24 * x1) + x2)).toNatClampNeg) ((400 * x1) + ((eA h 0 32) ((x2).toNatClampNeg))))) 0 9 (upd (eA h 0 9) ((((24 * x1) + x2)).toNatClampNeg) ((eA h 0 33) ((x2).toNatClampNeg)))) 0 10 (upd (eA h 0 10) ((((24 * x1) + x2)).toNatClampNeg) ((eA h 0 34) ((x2).toNatClampNeg)))) 0 11 (upd (eA h 0 11) ((((24 * x1) + x2)).toNatClampNeg) ((eA h 0 35) ((x2).toNatClampNeg)))) x1 (x2 + 1)) (fun _ k => Fr_trans (Fr_sA fm_X9_text_211_1_0_11 (Fr_sA fm_X9_text_211_1_0_10 (Fr_sA fm_X9_text_211_1_0_9 (Fr_sA fm_X9_text_211_1_0_8 (Fr_sA fm_X9_text_211_1_0_7 (Fr_refl _ h)))))) k)
def S_X9_text_167 : CL := [(0, 0, 4), (0, 0, 5), (1, 0, 0), (1, 0, 6), (1, 0, 7), (1, 0, 8), (1, 0, 9), (1, 0, 10), (1, 0, 11), (1, 0, 12), (1, 0, 13)]
theorem fm_X9_text_167_1_0_6 : (1, 0, 6) ∈ S_X9_text_167 := by decide
theorem fm_X9_text_167_0_0_5 : (0, 0, 5) ∈ S_X9_text_167 := by decide
theorem fm_X9_text_167_0_0_4 : (0, 0, 4) ∈ S_X9_text_167 := by decide
theorem fs_X9_text_211__X9_text_167 : ∀ x ∈ S_X9_text_211, x ∈ S_X9_text_167 := by decide
theorem w_f_X9_text_167 (h : HS) : pk (f_X9_text_167 h) (fun a => Fr S_X9_text_167 h a.2) := by
  unfold f_X9_text_167
  refine pk_if (fun _ => ?_) (fun _ => ?_)
  · refine pk_chk (fun _ => ?_)
    exact pk_mono (w_f_X9_text_211 8589934592 (sA (sI (sI h 0 4 (eI h 0 19)) 0 5 (eI h 0 20)) 0 6 (upd (eA h 0 6) ((((eA h 0 0) 3)).toNatClampNeg) (eI h 0 29))) ((eA h 0 0) 3) 0) (fun _ k => Fr_trans (Fr_sA fm_X9_text_167_1_0_6 (Fr_sI fm_X9_text_167_0_0_5 (Fr_sI fm_X9_text_167_0_0_4 (Fr_refl _ h)))) (Fr_mono fs_X9_text_211__X9_text_167 k))
  · exact pk_some (Fr_sI fm_X9_text_167_0_0_5 (Fr_sI fm_X9_text_167_0_0_4 (Fr_refl _ h)))
def S_X9_text_74 : CL := [(0, 0, 4), (0, 0, 5), (0, 0, 15), (0, 0, 16), (0, 0, 17), (0, 0, 18), (0, 0, 19), (0, 0, 20), (0, 0, 21), (0, 0, 22), (0, 0, 25), (0, 0, 28), (0, 0, 29), (0, 0, 30), (0, 0, 36), (1, 0, 0), (1, 0, 6), (1, 0, 7), (1, 0, 8), (1, 0, 9), (1, 0, 10), (1, 0, 11), (1, 0, 12), (1, 0, 13), (1, 0, 23), (1, 0, 24), (1, 0, 26), (1, 0, 27), (1, 0, 31), (1, 0, 32), (1, 0, 33), (1, 0, 34), (1, 0, 35), (1, 0, 37), (1, 0, 38)]
theorem fs_X9_asks__X9_text_74 : ∀ x ∈ S_X9_asks, x ∈ S_X9_text_74 := by decide
theorem fs_X9_begins__X9_text_74 : ∀ x ∈ S_X9_begins, x ∈ S_X9_text_74 := by decide
theorem fs_X9_goesOn__X9_text_74 : ∀ x ∈ S_X9_goesOn, x ∈ S_X9_text_74 := by decide
theorem fs_X9_asksOn__X9_text_74 : ∀ x ∈ S_X9_asksOn, x ∈ S_X9_text_74 := by decide
theorem fs_X9_clause__X9_text_74 : ∀ x ∈ S_X9_clause, x ∈ S_X9_text_74 := by decide
theorem w_f_X9_text_96 (k74 : HS → Option (Int32 × HS)) (hk_k74 : ∀ (h : HS), pk (k74 h) (fun a => Fr S_X9_text_74 h a.2)) (h : HS) : pk (f_X9_text_96 k74 h) (fun a => Fr S_X9_text_74 h a.2) := by
  unfold f_X9_text_96
  refine pk_if (fun _ => ?_) (fun _ => ?_)
  · refine pk_ob1 (w_f_X9_asks h) (fun h_9 k_1 => ?_)
    replace k_1 := Fr_trans (Fr_refl _ h) (Fr_mono fs_X9_asks__X9_text_74 k_1)
    exact pk_mono (hk_k74 h_9) (fun _ k => Fr_trans k_1 k)
  · refine pk_if (fun _ => ?_) (fun _ => ?_)
    · refine pk_ob1 (w_f_X9_begins h) (fun h_11 k_2 => ?_)
      replace k_2 := Fr_trans (Fr_refl _ h) (Fr_mono fs_X9_begins__X9_text_74 k_2)
      exact pk_mono (hk_k74 h_11) (fun _ k => Fr_trans k_2 k)
    · refine pk_if (fun _ => ?_) (fun _ => ?_)
      · refine pk_ob1 (w_f_X9_goesOn h) (fun h_13 k_3 => ?_)
        replace k_3 := Fr_trans (Fr_refl _ h) (Fr_mono fs_X9_goesOn__X9_text_74 k_3)
        exact pk_mono (hk_k74 h_13) (fun _ k => Fr_trans k_3 k)
      · refine pk_if (fun _ => ?_) (fun _ => ?_)
        · refine pk_ob1 (w_f_X9_asksOn h) (fun h_15 k_4 => ?_)
          replace k_4 := Fr_trans (Fr_refl _ h) (Fr_mono fs_X9_asksOn__X9_text_74 k_4)
          exact pk_mono (hk_k74 h_15) (fun _ k => Fr_trans k_4 k)
        · refine pk_ob1 (w_f_X9_clause h) (fun h_16 k_5 => ?_)
          replace k_5 := Fr_trans (Fr_refl _ h) (Fr_mono fs_X9_clause__X9_text_74 k_5)
          exact pk_mono (hk_k74 h_16) (fun _ k => Fr_trans k_5 k)
theorem fs_X9_text_167__X9_text_74 : ∀ x ∈ S_X9_text_167, x ∈ S_X9_text_74 := by decide
theorem w_f_X9_text_74  : ∀ (n : Nat) (h : HS), pk (f_X9_text_74  n h) (fun a => Fr S_X9_text_74 h a.2) := by
  intro n
  induction n with
  | zero => intro h; exact pk_none
  | succ n ih =>
    intro h
    rw [f_X9_text_74_s]
    refine pk_if (fun _ => ?_) (fun _ => ?_)
    · refine pk_if (fun _ => ?_) (fun _ => ?_)
      · refine pk_if (fun _ => ?_) (fun _ => ?_)
        · exact pk_mono (w_f_X9_text_167 h) (fun _ k => Fr_trans (Fr_refl _ h) (Fr_mono fs_X9_text_167__X9_text_74 k))
        · exact pk_mono (w_f_X9_text_96 (f_X9_text_74 n) ih h) (fun _ k => Fr_trans (Fr_refl _ h) k)
      · exact pk_mono (w_f_X9_text_96 (f_X9_text_74 n) ih h) (fun _ k => Fr_trans (Fr_refl _ h) k)
    · exact pk_mono (w_f_X9_text_167 h) (fun _ k => Fr_trans (Fr_refl _ h) (Fr_mono fs_X9_text_167__X9_text_74 k))
def S_X9_text : CL := [(0, 0, 3), (0, 0, 4), (0, 0, 5), (0, 0, 14), (0, 0, 15), (0, 0, 16), (0, 0, 17), (0, 0, 18), (0, 0, 19), (0, 0, 20), (0, 0, 21), (0, 0, 22), (0, 0, 25), (0, 0, 28), (0, 0, 29), (0, 0, 30), (0, 0, 36), (1, 0, 0), (1, 0, 6), (1, 0, 7), (1, 0, 8), (1, 0, 9), (1, 0, 10), (1, 0, 11), (1, 0, 12), (1, 0, 13), (1, 0, 23), (1, 0, 24), (1, 0, 26), (1, 0, 27), (1, 0, 31), (1, 0, 32), (1, 0, 33), (1, 0, 34), (1, 0, 35), (1, 0, 37), (1, 0, 38)]
theorem fm_X9_text_0_0_36 : (0, 0, 36) ∈ S_X9_text := by decide
theorem fm_X9_text_0_0_29 : (0, 0, 29) ∈ S_X9_text := by decide
theorem fm_X9_text_0_0_28 : (0, 0, 28) ∈ S_X9_text := by decide
theorem fm_X9_text_0_0_25 : (0, 0, 25) ∈ S_X9_text := by decide
theorem fm_X9_text_0_0_22 : (0, 0, 22) ∈ S_X9_text := by decide
theorem fm_X9_text_0_0_21 : (0, 0, 21) ∈ S_X9_text := by decide
theorem fm_X9_text_0_0_20 : (0, 0, 20) ∈ S_X9_text := by decide
theorem fm_X9_text_0_0_19 : (0, 0, 19) ∈ S_X9_text := by decide
theorem fm_X9_text_0_0_15 : (0, 0, 15) ∈ S_X9_text := by decide
theorem fm_X9_text_0_0_3 : (0, 0, 3) ∈ S_X9_text := by decide
theorem fm_X9_text_0_0_14 : (0, 0, 14) ∈ S_X9_text := by decide
theorem fs_X9_next__X9_text : ∀ x ∈ S_X9_next, x ∈ S_X9_text := by decide
theorem fs_X9_text_74__X9_text : ∀ x ∈ S_X9_text_74, x ∈ S_X9_text := by decide
theorem w_f_X9_text (h : HS) : pk (f_X9_text h) (fun a => Fr S_X9_text h a.2) := by
  unfold f_X9_text
  refine pk_if (fun _ => ?_) (fun _ => ?_)
  · exact pk_some (Fr_refl _ h)
  · refine pk_ob1 (w_f_X9_next (sI (sI (sI (sI (sI (sI (sI (sI (sI (sI (sI h 0 14 (eI h 0 3)) 0 3 0) 0 15 0) 0 19 0) 0 20 (-1)) 0 21 0) 0 22 0) 0 25 0) 0 28 4) 0 29 0) 0 36 0)) (fun h_2 k_1 => ?_)
    replace k_1 := Fr_trans (Fr_sI fm_X9_text_0_0_36 (Fr_sI fm_X9_text_0_0_29 (Fr_sI fm_X9_text_0_0_28 (Fr_sI fm_X9_text_0_0_25 (Fr_sI fm_X9_text_0_0_22 (Fr_sI fm_X9_text_0_0_21 (Fr_sI fm_X9_text_0_0_20 (Fr_sI fm_X9_text_0_0_19 (Fr_sI fm_X9_text_0_0_15 (Fr_sI fm_X9_text_0_0_3 (Fr_sI fm_X9_text_0_0_14 (Fr_refl _ h)))))))))))) (Fr_mono fs_X9_next__X9_text k_1)
    exact pk_mono (w_f_X9_text_74 8589934592 h_2) (fun _ k => Fr_trans k_1 (Fr_mono fs_X9_text_74__X9_text k))
def S_X9_fault_24 : CL := []
theorem w_f_X9_fault_24 (h : HS) (y0 : Int32) : pk (f_X9_fault_24 h y0) (fun a => Fr S_X9_fault_24 h a.2) := by
  unfold f_X9_fault_24
  exact pk_some (Fr_refl _ h)
def S_X9_fault : CL := []
theorem fs_X9_fault_24__X9_fault : ∀ x ∈ S_X9_fault_24, x ∈ S_X9_fault := by decide
theorem w_f_X9_fault (h : HS) (p1 : Int32) : pk (f_X9_fault h p1) (fun a => Fr S_X9_fault h a.2) := by
  unfold f_X9_fault
  refine pk_if (fun _ => ?_) (fun _ => ?_)
  · exact pk_mono (w_f_X9_fault_24 h (eI h 0 4)) (fun _ k => Fr_trans (Fr_refl _ h) (Fr_mono fs_X9_fault_24__X9_fault k))
  · refine pk_if (fun _ => ?_) (fun _ => ?_)
    · exact pk_mono (w_f_X9_fault_24 h (eI h 0 5)) (fun _ k => Fr_trans (Fr_refl _ h) (Fr_mono fs_X9_fault_24__X9_fault k))
    · exact pk_mono (w_f_X9_fault_24 h (-1)) (fun _ k => Fr_trans (Fr_refl _ h) (Fr_mono fs_X9_fault_24__X9_fault k))
def S_X9_saysOf_4 : CL := [(3, 0, 40)]
theorem w_f_X9_saysOf_169 (k4 : HS → Int32 → Int32 → Option (Int64 × HS)) (hk_k4 : ∀ (h : HS) (x0 : Int32) (x1 : Int32), pk (k4 h x0 x1) (fun a => Fr S_X9_saysOf_4 h a.2)) (h : HS) (x2 : Int32) (x3 : Int32) : pk (f_X9_saysOf_169 k4 h x2 x3) (fun a => Fr S_X9_saysOf_4 h a.2) := by
  unfold f_X9_saysOf_169
  exact pk_mono (hk_k4 h x2 (x3 + 1)) (fun _ k => Fr_trans (Fr_refl _ h) k)
theorem fm_X9_saysOf_4_3_0_40 : (3, 0, 40) ∈ S_X9_saysOf_4 := by decide
theorem w_f_X9_saysOf_75 (k4 : HS → Int32 → Int32 → Option (Int64 × HS)) (hk_k4 : ∀ (h : HS) (x0 : Int32) (x1 : Int32), pk (k4 h x0 x1) (fun a => Fr S_X9_saysOf_4 h a.2)) (h : HS) (x2 : Int32) (x3 : Int32) (y0 : Int64) (y1 : Int32) : pk (f_X9_saysOf_75 k4 h x2 x3 y0 y1) (fun a => Fr S_X9_saysOf_4 h a.2) := by
  unfold f_X9_saysOf_75
  refine pk_chk (fun _ => ?_)
  exact pk_mono (w_f_X9_saysOf_169 k4 hk_k4 (sJ h 0 40 (vp_updL (eJ h 0 40) ((y1).toNatClampNeg) y0)) (x2 + 1) x3) (fun _ k => Fr_trans (Fr_sJ fm_X9_saysOf_4_3_0_40 (Fr_refl _ h)) k)
theorem w_f_X9_saysOf_40 (k4 : HS → Int32 → Int32 → Option (Int64 × HS)) (hk_k4 : ∀ (h : HS) (x0 : Int32) (x1 : Int32), pk (k4 h x0 x1) (fun a => Fr S_X9_saysOf_4 h a.2)) (h : HS) (x2 : Int32) (x3 : Int32) (x4 : Int32) : pk (f_X9_saysOf_40 k4 h x2 x3 x4) (fun a => Fr S_X9_saysOf_4 h a.2) := by
  unfold f_X9_saysOf_40
  refine pk_if (fun _ => ?_) (fun _ => ?_)
  · refine pk_chk (fun _ => ?_)
    exact pk_mono (w_f_X9_saysOf_75 k4 hk_k4 h x2 x3 ((((eA h 0 13) ((x3).toNatClampNeg))).toInt64) x2) (fun _ k => Fr_trans (Fr_refl _ h) k)
  · refine pk_chk (fun _ => ?_)
    refine pk_chk (fun _ => ?_)
    exact pk_mono (w_f_X9_saysOf_75 k4 hk_k4 h x2 x3 ((((eA h 0 39) ((((eA h 0 13) ((x3).toNatClampNeg))).toNatClampNeg))).toInt64) x2) (fun _ k => Fr_trans (Fr_refl _ h) k)
theorem w_f_X9_saysOf_4  : ∀ (n : Nat) (h : HS) (x2 : Int32) (x3 : Int32), pk (f_X9_saysOf_4  n h x2 x3) (fun a => Fr S_X9_saysOf_4 h a.2) := by
  intro n
  induction n with
  | zero => intro h x2 x3; exact pk_none
  | succ n ih =>
    intro h x2 x3
    rw [f_X9_saysOf_4_s]
    refine pk_chk (fun _ => ?_)
    refine pk_if (fun _ => ?_) (fun _ => ?_)
    · exact pk_some (Fr_refl _ h)
    · refine pk_chk (fun _ => ?_)
      refine pk_if (fun _ => ?_) (fun _ => ?_)
      · exact pk_mono (w_f_X9_saysOf_40 (f_X9_saysOf_4 n) ih h x2 x3 ((eA h 0 12) ((x3).toNatClampNeg))) (fun _ k => Fr_trans (Fr_refl _ h) k)
      · refine pk_if (fun _ => ?_) (fun _ => ?_)
        · exact pk_mono (w_f_X9_saysOf_40 (f_X9_saysOf_4 n) ih h x2 x3 ((eA h 0 12) ((x3).toNatClampNeg))) (fun _ k => Fr_trans (Fr_refl _ h) k)
        · refine pk_if (fun _ => ?_) (fun _ => ?_)
          · refine pk_chk (fun _ => ?_)
            refine pk_chk (fun _ => ?_)
            exact pk_mono (w_f_X9_saysOf_169 (f_X9_saysOf_4 n) ih (sJ h 0 40 (vp_updL (eJ h 0 40) (((x2 - 1)).toNatClampNeg) (-((eJ h 0 40) (((x2 - 1)).toNatClampNeg))))) x2 x3) (fun _ k => Fr_trans (Fr_sJ fm_X9_saysOf_4_3_0_40 (Fr_refl _ h)) k)
          · refine pk_if (fun _ => ?_) (fun _ => ?_)
            · refine pk_chk (fun _ => ?_)
              refine pk_chk (fun _ => ?_)
              exact pk_mono (w_f_X9_saysOf_169 (f_X9_saysOf_4 n) ih (sJ h 0 40 (vp_updL (eJ h 0 40) (((x2 - 1)).toNatClampNeg) (1 - ((eJ h 0 40) (((x2 - 1)).toNatClampNeg))))) x2 x3) (fun _ k => Fr_trans (Fr_sJ fm_X9_saysOf_4_3_0_40 (Fr_refl _ h)) k)
            · refine pk_chk (fun _ => ?_)
              refine pk_chk (fun _ => ?_)
              refine pk_obf (fun r_10 => ?_)
              refine pk_chk (fun _ => ?_)
              exact pk_mono (w_f_X9_saysOf_169 (f_X9_saysOf_4 n) ih (sJ h 0 40 (vp_updL (eJ h 0 40) ((((x2 + (-1)) - 1)).toNatClampNeg) r_10)) (x2 + (-1)) x3) (fun _ k => Fr_trans (Fr_sJ fm_X9_saysOf_4_3_0_40 (Fr_refl _ h)) k)
def S_X9_saysOf : CL := [(3, 0, 40)]
theorem fs_X9_saysOf_4__X9_saysOf : ∀ x ∈ S_X9_saysOf_4, x ∈ S_X9_saysOf := by decide
theorem w_f_X9_saysOf (h : HS) (p1 : Int32) : pk (f_X9_saysOf h p1) (fun a => Fr S_X9_saysOf h a.2) := by
  unfold f_X9_saysOf
  exact pk_mono (w_f_X9_saysOf_4 8589934592 h 0 p1) (fun _ k => Fr_trans (Fr_refl _ h) (Fr_mono fs_X9_saysOf_4__X9_saysOf k))
def S_X9_by_23 : CL := [(1, 0, 0)]
theorem fm_X9_by_23_1_0_0 : (1, 0, 0) ∈ S_X9_by_23 := by decide
theorem w_f_X9_by_23 (h : HS) (x1 : Int32) : pk (f_X9_by_23 h x1) (fun a => Fr S_X9_by_23 h a.2) := by
  unfold f_X9_by_23
  exact pk_some (Fr_sA fm_X9_by_23_1_0_0 (Fr_refl _ h))
def S_X9_by : CL := [(1, 0, 0)]
theorem fs_X9_by_23__X9_by : ∀ x ∈ S_X9_by_23, x ∈ S_X9_by := by decide
theorem w_f_X9_by (h : HS) (p1 : Int32) : pk (f_X9_by h p1) (fun a => Fr S_X9_by h a.2) := by
  unfold f_X9_by
  refine pk_if (fun _ => ?_) (fun _ => ?_)
  · exact pk_mono (w_f_X9_by_23 h p1) (fun _ k => Fr_trans (Fr_refl _ h) (Fr_mono fs_X9_by_23__X9_by k))
  · refine pk_obf (fun r_2 => ?_)
    refine pk_if (fun _ => ?_) (fun _ => ?_)
    · exact pk_some (Fr_refl _ h)
    · exact pk_mono (w_f_X9_by_23 h p1) (fun _ k => Fr_trans (Fr_refl _ h) (Fr_mono fs_X9_by_23__X9_by k))
def S_X9_ordersOf_71 : CL := []
theorem w_f_X9_ordersOf_71 (h : HS) (x2 : Int32) : pk (f_X9_ordersOf_71 h x2) (fun a => Fr S_X9_ordersOf_71 h a.2) := by
  unfold f_X9_ordersOf_71
  exact pk_some (Fr_refl _ h)
def S_X9_ordersOf_4 : CL := []
theorem w_f_X9_ordersOf_64 (k4 : HS → Int32 → Int32 → Int32 → Option (Int32 × HS)) (hk_k4 : ∀ (h : HS) (x0 : Int32) (x1 : Int32) (x2 : Int32), pk (k4 h x0 x1 x2) (fun a => Fr S_X9_ordersOf_4 h a.2)) (h : HS) (x1 : Int32) (x3 : Int32) (y0 : Int32) : pk (f_X9_ordersOf_64 k4 h x1 x3 y0) (fun a => Fr S_X9_ordersOf_4 h a.2) := by
  unfold f_X9_ordersOf_64
  exact pk_mono (hk_k4 h x1 y0 (x3 + 1)) (fun _ k => Fr_trans (Fr_refl _ h) k)
theorem fs_X9_ordersOf_71__X9_ordersOf_4 : ∀ x ∈ S_X9_ordersOf_71, x ∈ S_X9_ordersOf_4 := by decide
theorem w_f_X9_ordersOf_4  : ∀ (n : Nat) (h : HS) (x1 : Int32) (x2 : Int32) (x3 : Int32), pk (f_X9_ordersOf_4  n h x1 x2 x3) (fun a => Fr S_X9_ordersOf_4 h a.2) := by
  intro n
  induction n with
  | zero => intro h x1 x2 x3; exact pk_none
  | succ n ih =>
    intro h x1 x2 x3
    rw [f_X9_ordersOf_4_s]
    refine pk_if (fun _ => ?_) (fun _ => ?_)
    · exact pk_mono (w_f_X9_ordersOf_71 h x2) (fun _ k => Fr_trans (Fr_refl _ h) (Fr_mono fs_X9_ordersOf_71__X9_ordersOf_4 k))
    · refine pk_chk (fun _ => ?_)
      refine pk_if (fun _ => ?_) (fun _ => ?_)
      · exact pk_mono (w_f_X9_ordersOf_71 h x2) (fun _ k => Fr_trans (Fr_refl _ h) (Fr_mono fs_X9_ordersOf_71__X9_ordersOf_4 k))
      · refine pk_chk (fun _ => ?_)
        refine pk_if (fun _ => ?_) (fun _ => ?_)
        · refine pk_chk (fun _ => ?_)
          exact pk_mono (w_f_X9_ordersOf_64 (f_X9_ordersOf_4 n) ih h x1 x3 ((eA h 0 8) ((((24 * ((eA h 0 0) 4)) + x3)).toNatClampNeg))) (fun _ k => Fr_trans (Fr_refl _ h) k)
        · exact pk_mono (w_f_X9_ordersOf_64 (f_X9_ordersOf_4 n) ih h x1 x3 x2) (fun _ k => Fr_trans (Fr_refl _ h) k)
def S_X9_ordersOf : CL := []
theorem fs_X9_ordersOf_4__X9_ordersOf : ∀ x ∈ S_X9_ordersOf_4, x ∈ S_X9_ordersOf := by decide
theorem w_f_X9_ordersOf (h : HS) (p1 : Int32) : pk (f_X9_ordersOf h p1) (fun a => Fr S_X9_ordersOf h a.2) := by
  unfold f_X9_ordersOf
  exact pk_mono (w_f_X9_ordersOf_4 8589934592 h p1 (-1) 0) (fun _ k => Fr_trans (Fr_refl _ h) (Fr_mono fs_X9_ordersOf_4__X9_ordersOf k))
def S_X9_names : CL := [(1, 0, 39)]
theorem fm_X9_names_1_0_39 : (1, 0, 39) ∈ S_X9_names := by decide
theorem fs_X9_ofGoose__X9_names : ∀ x ∈ S_X9_ofGoose, x ∈ S_X9_names := by decide
theorem w_f_X9_names (h : HS) (p1 : Int32) (p2 : Int32) (p3 : Int32) (p4 : Int32) : pk (f_X9_names h p1 p2 p3 p4) (fun a => Fr S_X9_names h a) := by
  unfold f_X9_names
  refine pk_ob2 (w_f_X9_ofGoose (sA h 0 39 (upd (eA h 0 39) 0 p1)) p1 0) (fun r_1 h_1 k_1 => ?_)
  replace k_1 := Fr_trans (Fr_sA fm_X9_names_1_0_39 (Fr_refl _ h)) (Fr_mono fs_X9_ofGoose__X9_names k_1)
  refine pk_ob2 (w_f_X9_ofGoose (sA h_1 0 39 (upd (eA h_1 0 39) 1 r_1)) p1 1) (fun r_2 h_2 k_2 => ?_)
  replace k_2 := Fr_trans (Fr_sA fm_X9_names_1_0_39 k_1) (Fr_mono fs_X9_ofGoose__X9_names k_2)
  exact pk_some (Fr_sA fm_X9_names_1_0_39 (Fr_sA fm_X9_names_1_0_39 (Fr_sA fm_X9_names_1_0_39 (Fr_sA fm_X9_names_1_0_39 k_2))))
def S_X9_inkOf : CL := [(1, 0, 39), (3, 0, 40)]
theorem fs_X9_ordersOf__X9_inkOf : ∀ x ∈ S_X9_ordersOf, x ∈ S_X9_inkOf := by decide
theorem fs_X9_names__X9_inkOf : ∀ x ∈ S_X9_names, x ∈ S_X9_inkOf := by decide
theorem fs_X9_saysOf__X9_inkOf : ∀ x ∈ S_X9_saysOf, x ∈ S_X9_inkOf := by decide
theorem w_f_X9_inkOf (h : HS) (p1 : Int32) (p2 : Int32) (p3 : Int32) : pk (f_X9_inkOf h p1 p2 p3) (fun a => Fr S_X9_inkOf h a.2) := by
  unfold f_X9_inkOf
  refine pk_ob2 (w_f_X9_ordersOf h 2) (fun r_1 h_1 k_1 => ?_)
  replace k_1 := Fr_trans (Fr_refl _ h) (Fr_mono fs_X9_ordersOf__X9_inkOf k_1)
  refine pk_if (fun _ => ?_) (fun _ => ?_)
  · exact pk_some k_1
  · refine pk_ob1 (w_f_X9_names h_1 p1 p2 p3 ((eA h_1 0 0) 121)) (fun h_3 k_2 => ?_)
    replace k_2 := Fr_trans k_1 (Fr_mono fs_X9_names__X9_inkOf k_2)
    refine pk_ob2 (w_f_X9_saysOf h_3 r_1) (fun r_4 h_4 k_3 => ?_)
    replace k_3 := Fr_trans k_2 (Fr_mono fs_X9_saysOf__X9_inkOf k_3)
    refine pk_obf (fun r_5 => ?_)
    exact pk_some k_3
def S_X9_ink_27 : CL := []
theorem w_f_X9_ink_27 (h : HS) (y0 : Int32) : pk (f_X9_ink_27 h y0) (fun a => Fr S_X9_ink_27 h a.2) := by
  unfold f_X9_ink_27
  exact pk_some (Fr_refl _ h)
def S_X9_ink_26 : CL := []
theorem fs_X9_ink_27__X9_ink_26 : ∀ x ∈ S_X9_ink_27, x ∈ S_X9_ink_26 := by decide
theorem w_f_X9_ink_26 (h : HS) : pk (f_X9_ink_26 h) (fun a => Fr S_X9_ink_26 h a.2) := by
  unfold f_X9_ink_26
  exact pk_mono (w_f_X9_ink_27 h (-1)) (fun _ k => Fr_trans (Fr_refl _ h) (Fr_mono fs_X9_ink_27__X9_ink_26 k))
def S_X9_ink : CL := [(1, 0, 39), (3, 0, 40)]
theorem fs_X9_isGoose__X9_ink : ∀ x ∈ S_X9_isGoose, x ∈ S_X9_ink := by decide
theorem fs_X9_ink_26__X9_ink : ∀ x ∈ S_X9_ink_26, x ∈ S_X9_ink := by decide
theorem fs_X9_inkOf__X9_ink : ∀ x ∈ S_X9_inkOf, x ∈ S_X9_ink := by decide
theorem fs_X9_ink_27__X9_ink : ∀ x ∈ S_X9_ink_27, x ∈ S_X9_ink := by decide
theorem w_f_X9_ink (h : HS) (p1 : Int32) (p2 : Int32) (p3 : Int32) : pk (f_X9_ink h p1 p2 p3) (fun a => Fr S_X9_ink h a.2) := by
  unfold f_X9_ink
  refine pk_ob2 (w_f_X9_isGoose h p1) (fun r_1 h_1 k_1 => ?_)
  replace k_1 := Fr_trans (Fr_refl _ h) (Fr_mono fs_X9_isGoose__X9_ink k_1)
  refine pk_if (fun _ => ?_) (fun _ => ?_)
  · exact pk_mono (w_f_X9_ink_26 h_1) (fun _ k => Fr_trans k_1 (Fr_mono fs_X9_ink_26__X9_ink k))
  · refine pk_obf (fun r_3 => ?_)
    refine pk_if (fun _ => ?_) (fun _ => ?_)
    · exact pk_mono (w_f_X9_ink_26 h_1) (fun _ k => Fr_trans k_1 (Fr_mono fs_X9_ink_26__X9_ink k))
    · refine pk_ob2 (w_f_X9_inkOf h_1 p1 p2 p3) (fun r_5 h_5 k_2 => ?_)
      replace k_2 := Fr_trans k_1 (Fr_mono fs_X9_inkOf__X9_ink k_2)
      exact pk_mono (w_f_X9_ink_27 h_5 r_5) (fun _ k => Fr_trans k_2 (Fr_mono fs_X9_ink_27__X9_ink k))
def S_X9_fill_43 : CL := []
theorem w_f_X9_fill_43 (h : HS) : pk (f_X9_fill_43 h) (fun a => Fr S_X9_fill_43 h a.2) := by
  unfold f_X9_fill_43
  exact pk_some (Fr_refl _ h)
def S_X9_fill : CL := [(1, 0, 0), (1, 0, 39), (3, 0, 40)]
theorem fm_X9_fill_1_0_0 : (1, 0, 0) ∈ S_X9_fill := by decide
theorem fs_X9_isHome__X9_fill : ∀ x ∈ S_X9_isHome, x ∈ S_X9_fill := by decide
theorem fs_X9_fill_43__X9_fill : ∀ x ∈ S_X9_fill_43, x ∈ S_X9_fill := by decide
theorem fs_X9_ofGoose__X9_fill : ∀ x ∈ S_X9_ofGoose, x ∈ S_X9_fill := by decide
theorem fs_X9_inkOf__X9_fill : ∀ x ∈ S_X9_inkOf, x ∈ S_X9_fill := by decide
theorem fs_X9_keepsStep__X9_fill : ∀ x ∈ S_X9_keepsStep, x ∈ S_X9_fill := by decide
theorem fs_X9_puts__X9_fill : ∀ x ∈ S_X9_puts, x ∈ S_X9_fill := by decide
theorem w_f_X9_fill (h : HS) (p1 : Int32) (p2 : Int32) (p3 : Int32) : pk (f_X9_fill h p1 p2 p3) (fun a => Fr S_X9_fill h a.2) := by
  unfold f_X9_fill
  refine pk_ob2 (w_f_X9_isHome h p1) (fun r_1 h_1 k_1 => ?_)
  replace k_1 := Fr_trans (Fr_refl _ h) (Fr_mono fs_X9_isHome__X9_fill k_1)
  refine pk_if (fun _ => ?_) (fun _ => ?_)
  · exact pk_mono (w_f_X9_fill_43 h_1) (fun _ k => Fr_trans k_1 (Fr_mono fs_X9_fill_43__X9_fill k))
  · refine pk_ob2 (w_f_X9_ofGoose h_1 p1 2) (fun r_3 h_3 k_2 => ?_)
    replace k_2 := Fr_trans k_1 (Fr_mono fs_X9_ofGoose__X9_fill k_2)
    refine pk_if (fun _ => ?_) (fun _ => ?_)
    · refine pk_obf (fun r_5 => ?_)
      refine pk_if (fun _ => ?_) (fun _ => ?_)
      · exact pk_mono (w_f_X9_fill_43 h_3) (fun _ k => Fr_trans k_2 (Fr_mono fs_X9_fill_43__X9_fill k))
      · refine pk_ob2 (w_f_X9_inkOf h_3 p1 p2 p3) (fun r_7 h_7 k_3 => ?_)
        replace k_3 := Fr_trans k_2 (Fr_mono fs_X9_inkOf__X9_fill k_3)
        refine pk_if (fun _ => ?_) (fun _ => ?_)
        · refine pk_ob2 (w_f_X9_inkOf h_7 p1 p2 p3) (fun r_9 h_9 k_4 => ?_)
          replace k_4 := Fr_trans k_3 (Fr_mono fs_X9_inkOf__X9_fill k_4)
          refine pk_ob1 (w_f_X9_keepsStep h_9) (fun h_10 k_5 => ?_)
          replace k_5 := Fr_trans k_4 (Fr_mono fs_X9_keepsStep__X9_fill k_5)
          refine pk_ob1 (w_f_X9_puts h_10 p1 2 p2) (fun h_11 k_6 => ?_)
          replace k_6 := Fr_trans k_5 (Fr_mono fs_X9_puts__X9_fill k_6)
          refine pk_ob1 (w_f_X9_puts h_11 p1 3 p3) (fun h_12 k_7 => ?_)
          replace k_7 := Fr_trans k_6 (Fr_mono fs_X9_puts__X9_fill k_7)
          exact pk_some (Fr_sA fm_X9_fill_1_0_0 k_7)
        · exact pk_mono (w_f_X9_fill_43 h_7) (fun _ k => Fr_trans k_3 (Fr_mono fs_X9_fill_43__X9_fill k))
    · exact pk_mono (w_f_X9_fill_43 h_3) (fun _ k => Fr_trans k_2 (Fr_mono fs_X9_fill_43__X9_fill k))
def S_X9_send_27 : CL := []
theorem w_f_X9_send_27 (h : HS) : pk (f_X9_send_27 h) (fun a => Fr S_X9_send_27 h a.2) := by
  unfold f_X9_send_27
  exact pk_some (Fr_refl _ h)
def S_X9_send : CL := [(1, 0, 0)]
theorem fs_X9_isHome__X9_send : ∀ x ∈ S_X9_isHome, x ∈ S_X9_send := by decide
theorem fs_X9_send_27__X9_send : ∀ x ∈ S_X9_send_27, x ∈ S_X9_send := by decide
theorem fs_X9_ofGoose__X9_send : ∀ x ∈ S_X9_ofGoose, x ∈ S_X9_send := by decide
theorem fs_X9_isMarket__X9_send : ∀ x ∈ S_X9_isMarket, x ∈ S_X9_send := by decide
theorem fs_X9_keepsStep__X9_send : ∀ x ∈ S_X9_keepsStep, x ∈ S_X9_send := by decide
theorem fs_X9_puts__X9_send : ∀ x ∈ S_X9_puts, x ∈ S_X9_send := by decide
theorem w_f_X9_send (h : HS) (p1 : Int32) (p2 : Int32) : pk (f_X9_send h p1 p2) (fun a => Fr S_X9_send h a.2) := by
  unfold f_X9_send
  refine pk_ob2 (w_f_X9_isHome h p1) (fun r_1 h_1 k_1 => ?_)
  replace k_1 := Fr_trans (Fr_refl _ h) (Fr_mono fs_X9_isHome__X9_send k_1)
  refine pk_if (fun _ => ?_) (fun _ => ?_)
  · exact pk_mono (w_f_X9_send_27 h_1) (fun _ k => Fr_trans k_1 (Fr_mono fs_X9_send_27__X9_send k))
  · refine pk_ob2 (w_f_X9_ofGoose h_1 p1 8) (fun r_3 h_3 k_2 => ?_)
    replace k_2 := Fr_trans k_1 (Fr_mono fs_X9_ofGoose__X9_send k_2)
    refine pk_if (fun _ => ?_) (fun _ => ?_)
    · exact pk_mono (w_f_X9_send_27 h_3) (fun _ k => Fr_trans k_2 (Fr_mono fs_X9_send_27__X9_send k))
    · refine pk_ob2 (w_f_X9_isMarket h_3 p2) (fun r_5 h_5 k_3 => ?_)
      replace k_3 := Fr_trans k_2 (Fr_mono fs_X9_isMarket__X9_send k_3)
      refine pk_if (fun _ => ?_) (fun _ => ?_)
      · exact pk_mono (w_f_X9_send_27 h_5) (fun _ k => Fr_trans k_3 (Fr_mono fs_X9_send_27__X9_send k))
      · refine pk_ob1 (w_f_X9_keepsStep h_5) (fun h_7 k_4 => ?_)
        replace k_4 := Fr_trans k_3 (Fr_mono fs_X9_keepsStep__X9_send k_4)
        refine pk_ob1 (w_f_X9_puts h_7 p1 4 1) (fun h_8 k_5 => ?_)
        replace k_5 := Fr_trans k_4 (Fr_mono fs_X9_puts__X9_send k_5)
        refine pk_ob1 (w_f_X9_puts h_8 p1 5 p2) (fun h_9 k_6 => ?_)
        replace k_6 := Fr_trans k_5 (Fr_mono fs_X9_puts__X9_send k_6)
        refine pk_chk (fun _ => ?_)
        refine pk_ob1 (w_f_X9_puts h_9 p1 6 (((eA h_9 0 0) 121) + ((eA h_9 0 0) (((10 + (3 * p2))).toNatClampNeg)))) (fun h_11 k_7 => ?_)
        replace k_7 := Fr_trans k_6 (Fr_mono fs_X9_puts__X9_send k_7)
        refine pk_ob2 (w_f_X9_ofGoose h_11 p1 6) (fun r_12 h_12 k_8 => ?_)
        replace k_8 := Fr_trans k_7 (Fr_mono fs_X9_ofGoose__X9_send k_8)
        exact pk_some k_8
def S_X9_fatten_29 : CL := []
theorem w_f_X9_fatten_29 (h : HS) : pk (f_X9_fatten_29 h) (fun a => Fr S_X9_fatten_29 h a.2) := by
  unfold f_X9_fatten_29
  exact pk_some (Fr_refl _ h)
def S_X9_fatten : CL := [(1, 0, 0)]
theorem fm_X9_fatten_1_0_0 : (1, 0, 0) ∈ S_X9_fatten := by decide
theorem fs_X9_isHome__X9_fatten : ∀ x ∈ S_X9_isHome, x ∈ S_X9_fatten := by decide
theorem fs_X9_fatten_29__X9_fatten : ∀ x ∈ S_X9_fatten_29, x ∈ S_X9_fatten := by decide
theorem fs_X9_ofGoose__X9_fatten : ∀ x ∈ S_X9_ofGoose, x ∈ S_X9_fatten := by decide
theorem fs_X9_keepsStep__X9_fatten : ∀ x ∈ S_X9_keepsStep, x ∈ S_X9_fatten := by decide
theorem fs_X9_puts__X9_fatten : ∀ x ∈ S_X9_puts, x ∈ S_X9_fatten := by decide
theorem w_f_X9_fatten (h : HS) (p1 : Int32) : pk (f_X9_fatten h p1) (fun a => Fr S_X9_fatten h a.2) := by
  unfold f_X9_fatten
  refine pk_ob2 (w_f_X9_isHome h p1) (fun r_1 h_1 k_1 => ?_)
  replace k_1 := Fr_trans (Fr_refl _ h) (Fr_mono fs_X9_isHome__X9_fatten k_1)
  refine pk_if (fun _ => ?_) (fun _ => ?_)
  · exact pk_mono (w_f_X9_fatten_29 h_1) (fun _ k => Fr_trans k_1 (Fr_mono fs_X9_fatten_29__X9_fatten k))
  · refine pk_ob2 (w_f_X9_ofGoose h_1 p1 0) (fun r_3 h_3 k_2 => ?_)
    replace k_2 := Fr_trans k_1 (Fr_mono fs_X9_ofGoose__X9_fatten k_2)
    refine pk_if (fun _ => ?_) (fun _ => ?_)
    · exact pk_mono (w_f_X9_fatten_29 h_3) (fun _ k => Fr_trans k_2 (Fr_mono fs_X9_fatten_29__X9_fatten k))
    · refine pk_if (fun _ => ?_) (fun _ => ?_)
      · exact pk_mono (w_f_X9_fatten_29 h_3) (fun _ k => Fr_trans k_2 (Fr_mono fs_X9_fatten_29__X9_fatten k))
      · refine pk_ob1 (w_f_X9_keepsStep h_3) (fun h_6 k_3 => ?_)
        replace k_3 := Fr_trans k_2 (Fr_mono fs_X9_keepsStep__X9_fatten k_3)
        refine pk_ob2 (w_f_X9_ofGoose h_6 p1 0) (fun r_7 h_7 k_4 => ?_)
        replace k_4 := Fr_trans k_3 (Fr_mono fs_X9_ofGoose__X9_fatten k_4)
        refine pk_ob1 (w_f_X9_puts h_7 p1 0 (r_7 + 1)) (fun h_8 k_5 => ?_)
        replace k_5 := Fr_trans k_4 (Fr_mono fs_X9_puts__X9_fatten k_5)
        refine pk_ob2 (w_f_X9_ofGoose (sA h_8 0 0 (upd (eA h_8 0 0) 120 (((eA h_8 0 0) 120) - 1))) p1 0) (fun r_9 h_9 k_6 => ?_)
        replace k_6 := Fr_trans (Fr_sA fm_X9_fatten_1_0_0 k_5) (Fr_mono fs_X9_ofGoose__X9_fatten k_6)
        exact pk_some k_6
