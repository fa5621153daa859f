theorem fm_X8_text_0_1_9 : (0, 1, 9) ∈ S_X8_text := by decide
theorem fm_X8_text_0_3_1 : (0, 3, 1) ∈ S_X8_text := by decide
theorem fs_X7_split__X8_text : ∀ x ∈ S_X7_split, x ∈ S_X8_text := by decide
theorem fs_X2_parse_0__X8_text : ∀ x ∈ S_X2_parse_0, x ∈ S_X8_text := by decide
theorem fs_X2_parse_1__X8_text : ∀ x ∈ S_X2_parse_1, x ∈ S_X8_text := by decide
theorem fs_X2_parse_2__X8_text : ∀ x ∈ S_X2_parse_2, x ∈ S_X8_text := by decide
theorem fs_X2_parse_3__X8_text : ∀ x ∈ S_X2_parse_3, x ∈ S_X8_text := by decide
theorem w_f_X8_text (h : HS) : pk (f_X8_text h) (fun a => Fr S_X8_text h a.2) := by
  unfold f_X8_text
  refine pk_if (fun _ => ?_) (fun _ => ?_)
  · refine pk_ob1 (w_f_X7_split h) (fun h_3 k_1 => ?_)
    replace k_1 := Fr_trans (Fr_refl _ h) (Fr_mono fs_X7_split__X8_text k_1)
    refine pk_ob1 (w_f_X2_parse_0 h_3) (fun h_4 k_2 => ?_)
    replace k_2 := Fr_trans k_1 (Fr_mono fs_X2_parse_0__X8_text k_2)
    refine pk_if (fun _ => ?_) (fun _ => ?_)
    · exact pk_some (Fr_sI fm_X8_text_0_1_9 (Fr_sI fm_X8_text_0_3_1 k_2))
    · exact pk_some (Fr_sI fm_X8_text_0_3_1 k_2)
  · refine pk_if (fun _ => ?_) (fun _ => ?_)
    · refine pk_ob1 (w_f_X7_split h) (fun h_8 k_3 => ?_)
      replace k_3 := Fr_trans (Fr_refl _ h) (Fr_mono fs_X7_split__X8_text k_3)
      refine pk_ob1 (w_f_X2_parse_1 h_8) (fun h_9 k_4 => ?_)
      replace k_4 := Fr_trans k_3 (Fr_mono fs_X2_parse_1__X8_text k_4)
      refine pk_if (fun _ => ?_) (fun _ => ?_)
      · exact pk_some (Fr_sI fm_X8_text_0_1_9 (Fr_sI fm_X8_text_0_3_1 k_4))
      · exact pk_some (Fr_sI fm_X8_text_0_3_1 k_4)
    · refine pk_if (fun _ => ?_) (fun _ => ?_)
      · refine pk_ob1 (w_f_X7_split h) (fun h_13 k_5 => ?_)
        replace k_5 := Fr_trans (Fr_refl _ h) (Fr_mono fs_X7_split__X8_text k_5)
        refine pk_ob1 (w_f_X2_parse_2 h_13) (fun h_14 k_6 => ?_)
        replace k_6 := Fr_trans k_5 (Fr_mono fs_X2_parse_2__X8_text k_6)
        refine pk_if (fun _ => ?_) (fun _ => ?_)
        · exact pk_some (Fr_sI fm_X8_text_0_1_9 (Fr_sI fm_X8_text_0_3_1 k_6))
        · exact pk_some (Fr_sI fm_X8_text_0_3_1 k_6)
      · refine pk_if (fun _ => ?_) (fun _ => ?_)
        · refine pk_ob1 (w_f_X7_split h) (fun h_18 k_7 => ?_)
          replace k_7 := Fr_trans (Fr_refl _ h) (Fr_mono fs_X7_split__X8_text k_7)
          refine pk_ob1 (w_f_X2_parse_3 h_18) (fun h_19 k_8 => ?_)
          replace k_8 := Fr_trans k_7 (Fr_mono fs_X2_parse_3__X8_text k_8)
          refine pk_if (fun _ => ?_) (fun _ => ?_)
          · exact pk_some (Fr_sI fm_X8_text_0_1_9 (Fr_sI fm_X8_text_0_3_1 k_8))
          · exact pk_some (Fr_sI fm_X8_text_0_3_1 k_8)
        · exact pk_some (Fr_refl _ h)
def S_X8_fault_28 : CL := []
theorem w_f_X8_fault_28 (h : HS) (y0 : Int32) : pk (f_X8_fault_28 h y0) (fun a => Fr S_X8_fault_28 h a.2) := by
  unfold f_X8_fault_28
  exact pk_some (Fr_refl _ h)
def S_X8_fault : CL := []
theorem fs_X8_fault_28__X8_fault : ∀ x ∈ S_X8_fault_28, x ∈ S_X8_fault := by decide
theorem w_f_X8_fault (h : HS) (p1 : Int32) : pk (f_X8_fault h p1) (fun a => Fr S_X8_fault h a.2) := by
  unfold f_X8_fault
  refine pk_if (fun _ => ?_) (fun _ => ?_)
  · exact pk_some (Fr_refl _ h)
  · refine pk_if (fun _ => ?_) (fun _ => ?_)
    · exact pk_mono (w_f_X8_fault_28 h (eI h 5 1)) (fun _ k => Fr_trans (Fr_refl _ h) (Fr_mono fs_X8_fault_28__X8_fault k))
    · exact pk_mono (w_f_X8_fault_28 h (-1)) (fun _ k => Fr_trans (Fr_refl _ h) (Fr_mono fs_X8_fault_28__X8_fault k))
def S_X8_by_16 : CL := []
theorem w_f_X8_by_16 (h : HS) : pk (f_X8_by_16 h) (fun a => Fr S_X8_by_16 h a.2) := by
  unfold f_X8_by_16
  exact pk_some (Fr_refl _ h)
def S_X8_by : CL := [(0, 1, 10)]
theorem fm_X8_by_0_1_10 : (0, 1, 10) ∈ S_X8_by := by decide
theorem fs_X8_by_16__X8_by : ∀ x ∈ S_X8_by_16, x ∈ S_X8_by := by decide
theorem w_f_X8_by (h : HS) (p1 : Int32) : pk (f_X8_by h p1) (fun a => Fr S_X8_by h a.2) := by
  unfold f_X8_by
  refine pk_if (fun _ => ?_) (fun _ => ?_)
  · exact pk_mono (w_f_X8_by_16 h) (fun _ k => Fr_trans (Fr_refl _ h) (Fr_mono fs_X8_by_16__X8_by k))
  · refine pk_if (fun _ => ?_) (fun _ => ?_)
    · exact pk_some (Fr_sI fm_X8_by_0_1_10 (Fr_refl _ h))
    · exact pk_mono (w_f_X8_by_16 h) (fun _ k => Fr_trans (Fr_refl _ h) (Fr_mono fs_X8_by_16__X8_by k))
def S_X8_played_24 : CL := []
theorem w_f_X8_played_24 (h : HS) : pk (f_X8_played_24 h) (fun a => Fr S_X8_played_24 h a.2) := by
  unfold f_X8_played_24
  exact pk_some (Fr_refl _ h)
def S_X8_played_29 : CL := [(0, 1, 5), (0, 1, 7), (0, 1, 8), (0, 1, 11), (0, 1, 12), (0, 6, 3), (1, 1, 0), (1, 1, 2), (1, 6, 1), (1, 6, 2)]
theorem w_f_X8_played_146 (k29 : HS → Int32 → Option (Int32 × HS)) (hk_k29 : ∀ (h : HS) (x0 : Int32), pk (k29 h x0) (fun a => Fr S_X8_played_29 h a.2)) (h : HS) (x3 : Int32) (x6 : Int32) : pk (f_X8_played_146 k29 h x3 x6) (fun a => Fr S_X8_played_29 h a.2) := by
  unfold f_X8_played_146
  refine pk_if (fun _ => ?_) (fun _ => ?_)
  · exact pk_some (Fr_refl _ h)
  · exact pk_mono (hk_k29 h (x3 + 1)) (fun _ k => Fr_trans (Fr_refl _ h) k)
theorem fs_X6_clauseField_0__X8_played_29 : ∀ x ∈ S_X6_clauseField_0, x ∈ S_X8_played_29 := by decide
theorem fs_X8_fill__X8_played_29 : ∀ x ∈ S_X8_fill, x ∈ S_X8_played_29 := by decide
theorem fs_X8_send__X8_played_29 : ∀ x ∈ S_X8_send, x ∈ S_X8_played_29 := by decide
theorem fs_X8_fatten__X8_played_29 : ∀ x ∈ S_X8_fatten, x ∈ S_X8_played_29 := by decide
theorem fs_X8_pass__X8_played_29 : ∀ x ∈ S_X8_pass, x ∈ S_X8_played_29 := by decide
theorem w_f_X8_played_29  : ∀ (n : Nat) (h : HS) (x3 : Int32), pk (f_X8_played_29  n h x3) (fun a => Fr S_X8_played_29 h a.2) := by
  intro n
  induction n with
  | zero => intro h x3; exact pk_none
  | succ n ih =>
    intro h x3
    rw [f_X8_played_29_s]
    refine pk_if (fun _ => ?_) (fun _ => ?_)
    · exact pk_some (Fr_refl _ h)
    · refine pk_ob2 (w_f_X6_clauseField_0 h x3 1) (fun r_16 h_16 k_1 => ?_)
      replace k_1 := Fr_trans (Fr_refl _ h) (Fr_mono fs_X6_clauseField_0__X8_played_29 k_1)
      refine pk_ob2 (w_f_X6_clauseField_0 h_16 x3 2) (fun r_17 h_17 k_2 => ?_)
      replace k_2 := Fr_trans k_1 (Fr_mono fs_X6_clauseField_0__X8_played_29 k_2)
      refine pk_ob2 (w_f_X6_clauseField_0 h_17 x3 0) (fun r_18 h_18 k_3 => ?_)
      replace k_3 := Fr_trans k_2 (Fr_mono fs_X6_clauseField_0__X8_played_29 k_3)
      refine pk_if (fun _ => ?_) (fun _ => ?_)
      · refine pk_ob2 (w_f_X6_clauseField_0 h_18 x3 3) (fun r_20 h_20 k_4 => ?_)
        replace k_4 := Fr_trans k_3 (Fr_mono fs_X6_clauseField_0__X8_played_29 k_4)
        refine pk_ob2 (w_f_X8_fill h_20 r_16 r_17 r_20) (fun r_21 h_21 k_5 => ?_)
        replace k_5 := Fr_trans k_4 (Fr_mono fs_X8_fill__X8_played_29 k_5)
        exact pk_mono (w_f_X8_played_146 (f_X8_played_29 n) ih h_21 x3 r_21) (fun _ k => Fr_trans k_5 k)
      · refine pk_if (fun _ => ?_) (fun _ => ?_)
        · refine pk_ob2 (w_f_X8_send h_18 r_16 r_17) (fun r_23 h_23 k_6 => ?_)
          replace k_6 := Fr_trans k_3 (Fr_mono fs_X8_send__X8_played_29 k_6)
          exact pk_mono (w_f_X8_played_146 (f_X8_played_29 n) ih h_23 x3 r_23) (fun _ k => Fr_trans k_6 k)
        · refine pk_if (fun _ => ?_) (fun _ => ?_)
          · refine pk_ob2 (w_f_X8_fatten h_18 r_16) (fun r_25 h_25 k_7 => ?_)
            replace k_7 := Fr_trans k_3 (Fr_mono fs_X8_fatten__X8_played_29 k_7)
            exact pk_mono (w_f_X8_played_146 (f_X8_played_29 n) ih h_25 x3 r_25) (fun _ k => Fr_trans k_7 k)
          · refine pk_if (fun _ => ?_) (fun _ => ?_)
            · refine pk_ob2 (w_f_X8_pass h_18 r_16) (fun r_27 h_27 k_8 => ?_)
              replace k_8 := Fr_trans k_3 (Fr_mono fs_X8_pass__X8_played_29 k_8)
              exact pk_mono (w_f_X8_played_146 (f_X8_played_29 n) ih h_27 x3 r_27) (fun _ k => Fr_trans k_8 k)
            · exact pk_mono (w_f_X8_played_146 (f_X8_played_29 n) ih h_18 x3 0) (fun _ k => Fr_trans k_3 k)
def S_X8_played_29b : CL := [(0, 1, 5), (0, 1, 7), (0, 1, 8), (0, 1, 11), (0, 1, 12), (0, 6, 3), (1, 1, 0), (1, 1, 2), (1, 6, 1), (1, 6, 2)]
theorem w_f_X8_played_146b (k29b : HS → Int32 → Option (Int32 × HS)) (hk_k29b : ∀ (h : HS) (x0 : Int32), pk (k29b h x0) (fun a => Fr S_X8_played_29b h a.2)) (h : HS) (x3 : Int32) (x6 : Int32) : pk (f_X8_played_146b k29b h x3 x6) (fun a => Fr S_X8_played_29b h a.2) := by
  unfold f_X8_played_146b
  refine pk_if (fun _ => ?_) (fun _ => ?_)
  · exact pk_some (Fr_refl _ h)
  · exact pk_mono (hk_k29b h (x3 + 1)) (fun _ k => Fr_trans (Fr_refl _ h) k)
theorem fs_X6_clauseField_1__X8_played_29b : ∀ x ∈ S_X6_clauseField_1, x ∈ S_X8_played_29b := by decide
theorem fs_X8_fill__X8_played_29b : ∀ x ∈ S_X8_fill, x ∈ S_X8_played_29b := by decide
theorem fs_X8_send__X8_played_29b : ∀ x ∈ S_X8_send, x ∈ S_X8_played_29b := by decide
theorem fs_X8_fatten__X8_played_29b : ∀ x ∈ S_X8_fatten, x ∈ S_X8_played_29b := by decide
theorem fs_X8_pass__X8_played_29b : ∀ x ∈ S_X8_pass, x ∈ S_X8_played_29b := by decide
theorem w_f_X8_played_29b  : ∀ (n : Nat) (h : HS) (x3 : Int32), pk (f_X8_played_29b  n h x3) (fun a => Fr S_X8_played_29b h a.2) := by
  intro n
  induction n with
  | zero => intro h x3; exact pk_none
  | succ n ih =>
    intro h x3
    rw [f_X8_played_29b_s]
    refine pk_if (fun _ => ?_) (fun _ => ?_)
    · exact pk_some (Fr_refl _ h)
    · refine pk_ob2 (w_f_X6_clauseField_1 h x3 1) (fun r_29 h_29 k_1 => ?_)
      replace k_1 := Fr_trans (Fr_refl _ h) (Fr_mono fs_X6_clauseField_1__X8_played_29b k_1)
      refine pk_ob2 (w_f_X6_clauseField_1 h_29 x3 2) (fun r_30 h_30 k_2 => ?_)
      replace k_2 := Fr_trans k_1 (Fr_mono fs_X6_clauseField_1__X8_played_29b k_2)
      refine pk_ob2 (w_f_X6_clauseField_1 h_30 x3 0) (fun r_31 h_31 k_3 => ?_)
      replace k_3 := Fr_trans k_2 (Fr_mono fs_X6_clauseField_1__X8_played_29b k_3)
      refine pk_if (fun _ => ?_) (fun _ => ?_)
      · refine pk_ob2 (w_f_X6_clauseField_1 h_31 x3 3) (fun r_33 h_33 k_4 => ?_)
        replace k_4 := Fr_trans k_3 (Fr_mono fs_X6_clauseField_1__X8_played_29b k_4)
        refine pk_ob2 (w_f_X8_fill h_33 r_29 r_30 r_33) (fun r_34 h_34 k_5 => ?_)
        replace k_5 := Fr_trans k_4 (Fr_mono fs_X8_fill__X8_played_29b k_5)
        exact pk_mono (w_f_X8_played_146b (f_X8_played_29b n) ih h_34 x3 r_34) (fun _ k => Fr_trans k_5 k)
      · refine pk_if (fun _ => ?_) (fun _ => ?_)
        · refine pk_ob2 (w_f_X8_send h_31 r_29 r_30) (fun r_36 h_36 k_6 => ?_)
          replace k_6 := Fr_trans k_3 (Fr_mono fs_X8_send__X8_played_29b k_6)
          exact pk_mono (w_f_X8_played_146b (f_X8_played_29b n) ih h_36 x3 r_36) (fun _ k => Fr_trans k_6 k)
        · refine pk_if (fun _ => ?_) (fun _ => ?_)
          · refine pk_ob2 (w_f_X8_fatten h_31 r_29) (fun r_38 h_38 k_7 => ?_)
            replace k_7 := Fr_trans k_3 (Fr_mono fs_X8_fatten__X8_played_29b k_7)
            exact pk_mono (w_f_X8_played_146b (f_X8_played_29b n) ih h_38 x3 r_38) (fun _ k => Fr_trans k_7 k)
          · refine pk_if (fun _ => ?_) (fun _ => ?_)
            · refine pk_ob2 (w_f_X8_pass h_31 r_29) (fun r_40 h_40 k_8 => ?_)
              replace k_8 := Fr_trans k_3 (Fr_mono fs_X8_pass__X8_played_29b k_8)
              exact pk_mono (w_f_X8_played_146b (f_X8_played_29b n) ih h_40 x3 r_40) (fun _ k => Fr_trans k_8 k)
            · exact pk_mono (w_f_X8_played_146b (f_X8_played_29b n) ih h_31 x3 0) (fun _ k => Fr_trans k_3 k)
def S_X8_played_29c : CL := [(0, 1, 5), (0, 1, 7), (0, 1, 8), (0, 1, 11), (0, 1, 12), (0, 6, 3), (1, 1, 0), (1, 1, 2), (1, 6, 1), (1, 6, 2)]
theorem w_f_X8_played_146c (k29c : HS → Int32 → Option (Int32 × HS)) (hk_k29c : ∀ (h : HS) (x0 : Int32), pk (k29c h x0) (fun a => Fr S_X8_played_29c h a.2)) (h : HS) (x3 : Int32) (x6 : Int32) : pk (f_X8_played_146c k29c h x3 x6) (fun a => Fr S_X8_played_29c h a.2) := by
  unfold f_X8_played_146c
  refine pk_if (fun _ => ?_) (fun _ => ?_)
  · exact pk_some (Fr_refl _ h)
  · exact pk_mono (hk_k29c h (x3 + 1)) (fun _ k => Fr_trans (Fr_refl _ h) k)
theorem fs_X6_clauseField_2__X8_played_29c : ∀ x ∈ S_X6_clauseField_2, x ∈ S_X8_played_29c := by decide
theorem fs_X8_fill__X8_played_29c : ∀ x ∈ S_X8_fill, x ∈ S_X8_played_29c := by decide
theorem fs_X8_send__X8_played_29c : ∀ x ∈ S_X8_send, x ∈ S_X8_played_29c := by decide
theorem fs_X8_fatten__X8_played_29c : ∀ x ∈ S_X8_fatten, x ∈ S_X8_played_29c := by decide
theorem fs_X8_pass__X8_played_29c : ∀ x ∈ S_X8_pass, x ∈ S_X8_played_29c := by decide
theorem w_f_X8_played_29c  : ∀ (n : Nat) (h : HS) (x3 : Int32), pk (f_X8_played_29c  n h x3) (fun a => Fr S_X8_played_29c h a.2) := by
  intro n
  induction n with
  | zero => intro h x3; exact pk_none
  | succ n ih =>
    intro h x3
    rw [f_X8_played_29c_s]
    refine pk_if (fun _ => ?_) (fun _ => ?_)
    · exact pk_some (Fr_refl _ h)
    · refine pk_ob2 (w_f_X6_clauseField_2 h x3 1) (fun r_42 h_42 k_1 => ?_)
      replace k_1 := Fr_trans (Fr_refl _ h) (Fr_mono fs_X6_clauseField_2__X8_played_29c k_1)
      refine pk_ob2 (w_f_X6_clauseField_2 h_42 x3 2) (fun r_43 h_43 k_2 => ?_)
      replace k_2 := Fr_trans k_1 (Fr_mono fs_X6_clauseField_2__X8_played_29c k_2)
      refine pk_ob2 (w_f_X6_clauseField_2 h_43 x3 0) (fun r_44 h_44 k_3 => ?_)
      replace k_3 := Fr_trans k_2 (Fr_mono fs_X6_clauseField_2__X8_played_29c k_3)
      refine pk_if (fun _ => ?_) (fun _ => ?_)
      · refine pk_ob2 (w_f_X6_clauseField_2 h_44 x3 3) (fun r_46 h_46 k_4 => ?_)
        replace k_4 := Fr_trans k_3 (Fr_mono fs_X6_clauseField_2__X8_played_29c k_4)
        refine pk_ob2 (w_f_X8_fill h_46 r_42 r_43 r_46) (fun r_47 h_47 k_5 => ?_)
        replace k_5 := Fr_trans k_4 (Fr_mono fs_X8_fill__X8_played_29c k_5)
        exact pk_mono (w_f_X8_played_146c (f_X8_played_29c n) ih h_47 x3 r_47) (fun _ k => Fr_trans k_5 k)
      · refine pk_if (fun _ => ?_) (fun _ => ?_)
        · refine pk_ob2 (w_f_X8_send h_44 r_42 r_43) (fun r_49 h_49 k_6 => ?_)
          replace k_6 := Fr_trans k_3 (Fr_mono fs_X8_send__X8_played_29c k_6)
          exact pk_mono (w_f_X8_played_146c (f_X8_played_29c n) ih h_49 x3 r_49) (fun _ k => Fr_trans k_6 k)
        · refine pk_if (fun _ => ?_) (fun _ => ?_)
          · refine pk_ob2 (w_f_X8_fatten h_44 r_42) (fun r_51 h_51 k_7 => ?_)
            replace k_7 := Fr_trans k_3 (Fr_mono fs_X8_fatten__X8_played_29c k_7)
            exact pk_mono (w_f_X8_played_146c (f_X8_played_29c n) ih h_51 x3 r_51) (fun _ k => Fr_trans k_7 k)
          · refine pk_if (fun _ => ?_) (fun _ => ?_)
            · refine pk_ob2 (w_f_X8_pass h_44 r_42) (fun r_53 h_53 k_8 => ?_)
              replace k_8 := Fr_trans k_3 (Fr_mono fs_X8_pass__X8_played_29c k_8)
              exact pk_mono (w_f_X8_played_146c (f_X8_played_29c n) ih h_53 x3 r_53) (fun _ k => Fr_trans k_8 k)
            · exact pk_mono (w_f_X8_played_146c (f_X8_played_29c n) ih h_44 x3 0) (fun _ k => Fr_trans k_3 k)
def S_X8_played_29d : CL := [(0, 1, 5), (0, 1, 7), (0, 1, 8), (0, 1, 11), (0, 1, 12), (0, 6, 3), (1, 1, 0), (1, 1, 2), (1, 6, 1), (1, 6, 2)]
theorem w_f_X8_played_146d (k29d : HS → Int32 → Option (Int32 × HS)) (hk_k29d : ∀ (h : HS) (x0 : Int32), pk (k29d h x0) (fun a => Fr S_X8_played_29d h a.2)) (h : HS) (x3 : Int32) (x6 : Int32) : pk (f_X8_played_146d k29d h x3 x6) (fun a => Fr S_X8_played_29d h a.2) := by
  unfold f_X8_played_146d
  refine pk_if (fun _ => ?_) (fun _ => ?_)
  · exact pk_some (Fr_refl _ h)
  · exact pk_mono (hk_k29d h (x3 + 1)) (fun _ k => Fr_trans (Fr_refl _ h) k)
theorem fs_X6_clauseField_3__X8_played_29d : ∀ x ∈ S_X6_clauseField_3, x ∈ S_X8_played_29d := by decide
theorem fs_X8_fill__X8_played_29d : ∀ x ∈ S_X8_fill, x ∈ S_X8_played_29d := by decide
theorem fs_X8_send__X8_played_29d : ∀ x ∈ S_X8_send, x ∈ S_X8_played_29d := by decide
theorem fs_X8_fatten__X8_played_29d : ∀ x ∈ S_X8_fatten, x ∈ S_X8_played_29d := by decide
theorem fs_X8_pass__X8_played_29d : ∀ x ∈ S_X8_pass, x ∈ S_X8_played_29d := by decide
theorem w_f_X8_played_29d  : ∀ (n : Nat) (h : HS) (x3 : Int32), pk (f_X8_played_29d  n h x3) (fun a => Fr S_X8_played_29d h a.2) := by
  intro n
  induction n with
  | zero => intro h x3; exact pk_none
  | succ n ih =>
    intro h x3
    rw [f_X8_played_29d_s]
    refine pk_if (fun _ => ?_) (fun _ => ?_)
    · exact pk_some (Fr_refl _ h)
    · refine pk_ob2 (w_f_X6_clauseField_3 h x3 1) (fun r_55 h_55 k_1 => ?_)
      replace k_1 := Fr_trans (Fr_refl _ h) (Fr_mono fs_X6_clauseField_3__X8_played_29d k_1)
      refine pk_ob2 (w_f_X6_clauseField_3 h_55 x3 2) (fun r_56 h_56 k_2 => ?_)
      replace k_2 := Fr_trans k_1 (Fr_mono fs_X6_clauseField_3__X8_played_29d k_2)
      refine pk_ob2 (w_f_X6_clauseField_3 h_56 x3 0) (fun r_57 h_57 k_3 => ?_)
      replace k_3 := Fr_trans k_2 (Fr_mono fs_X6_clauseField_3__X8_played_29d k_3)
      refine pk_if (fun _ => ?_) (fun _ => ?_)
      · refine pk_ob2 (w_f_X6_clauseField_3 h_57 x3 3) (fun r_59 h_59 k_4 => ?_)
        replace k_4 := Fr_trans k_3 (Fr_mono fs_X6_clauseField_3__X8_played_29d k_4)
        refine pk_ob2 (w_f_X8_fill h_59 r_55 r_56 r_59) (fun r_60 h_60 k_5 => ?_)
        replace k_5 := Fr_trans k_4 (Fr_mono fs_X8_fill__X8_played_29d k_5)
        exact pk_mono (w_f_X8_played_146d (f_X8_played_29d n) ih h_60 x3 r_60) (fun _ k => Fr_trans k_5 k)
      · refine pk_if (fun _ => ?_) (fun _ => ?_)
        · refine pk_ob2 (w_f_X8_send h_57 r_55 r_56) (fun r_62 h_62 k_6 => ?_)
          replace k_6 := Fr_trans k_3 (Fr_mono fs_X8_send__X8_played_29d k_6)
          exact pk_mono (w_f_X8_played_146d (f_X8_played_29d n) ih h_62 x3 r_62) (fun _ k => Fr_trans k_6 k)
        · refine pk_if (fun _ => ?_) (fun _ => ?_)
          · refine pk_ob2 (w_f_X8_fatten h_57 r_55) (fun r_64 h_64 k_7 => ?_)
            replace k_7 := Fr_trans k_3 (Fr_mono fs_X8_fatten__X8_played_29d k_7)
            exact pk_mono (w_f_X8_played_146d (f_X8_played_29d n) ih h_64 x3 r_64) (fun _ k => Fr_trans k_7 k)
          · refine pk_if (fun _ => ?_) (fun _ => ?_)
            · refine pk_ob2 (w_f_X8_pass h_57 r_55) (fun r_66 h_66 k_8 => ?_)
              replace k_8 := Fr_trans k_3 (Fr_mono fs_X8_pass__X8_played_29d k_8)
              exact pk_mono (w_f_X8_played_146d (f_X8_played_29d n) ih h_66 x3 r_66) (fun _ k => Fr_trans k_8 k)
            · exact pk_mono (w_f_X8_played_146d (f_X8_played_29d n) ih h_57 x3 0) (fun _ k => Fr_trans k_3 k)
def S_X8_played : CL := [(0, 1, 5), (0, 1, 7), (0, 1, 8), (0, 1, 11), (0, 1, 12), (0, 6, 3), (1, 1, 0), (1, 1, 2), (1, 6, 1), (1, 6, 2)]
theorem fs_X8_played_24__X8_played : ∀ x ∈ S_X8_played_24, x ∈ S_X8_played := by decide
theorem fs_X8_played_29__X8_played : ∀ x ∈ S_X8_played_29, x ∈ S_X8_played := by decide
theorem fs_X8_played_29b__X8_played : ∀ x ∈ S_X8_played_29b, x ∈ S_X8_played := by decide
theorem fs_X8_played_29c__X8_played : ∀ x ∈ S_X8_played_29c, x ∈ S_X8_played := by decide
theorem fs_X8_played_29d__X8_played : ∀ x ∈ S_X8_played_29d, x ∈ S_X8_played := by decide
theorem w_f_X8_played (h : HS) (p1 : Int32) : pk (f_X8_played h p1) (fun a => Fr S_X8_played h a.2) := by
  unfold f_X8_played
  refine pk_if (fun _ => ?_) (fun _ => ?_)
  · refine pk_if (fun _ => ?_) (fun _ => ?_)
    · exact pk_mono (w_f_X8_played_24 h) (fun _ k => Fr_trans (Fr_refl _ h) (Fr_mono fs_X8_played_24__X8_played k))
    · exact pk_mono (w_f_X8_played_29 8589934592 h 0) (fun _ k => Fr_trans (Fr_refl _ h) (Fr_mono fs_X8_played_29__X8_played k))
  · refine pk_if (fun _ => ?_) (fun _ => ?_)
    · refine pk_if (fun _ => ?_) (fun _ => ?_)
      · exact pk_mono (w_f_X8_played_24 h) (fun _ k => Fr_trans (Fr_refl _ h) (Fr_mono fs_X8_played_24__X8_played k))
      · exact pk_mono (w_f_X8_played_29b 8589934592 h 0) (fun _ k => Fr_trans (Fr_refl _ h) (Fr_mono fs_X8_played_29b__X8_played k))
    · refine pk_if (fun _ => ?_) (fun _ => ?_)
      · refine pk_if (fun _ => ?_) (fun _ => ?_)
        · exact pk_mono (w_f_X8_played_24 h) (fun _ k => Fr_trans (Fr_refl _ h) (Fr_mono fs_X8_played_24__X8_played k))
        · exact pk_mono (w_f_X8_played_29c 8589934592 h 0) (fun _ k => Fr_trans (Fr_refl _ h) (Fr_mono fs_X8_played_29c__X8_played k))
      · refine pk_if (fun _ => ?_) (fun _ => ?_)
        · refine pk_if (fun _ => ?_) (fun _ => ?_)
          · exact pk_mono (w_f_X8_played_24 h) (fun _ k => Fr_trans (Fr_refl _ h) (Fr_mono fs_X8_played_24__X8_played k))
          · exact pk_mono (w_f_X8_played_29d 8589934592 h 0) (fun _ k => Fr_trans (Fr_refl _ h) (Fr_mono fs_X8_played_29d__X8_played k))
        · refine pk_if (fun _ => ?_) (fun _ => ?_)
          · exact pk_mono (w_f_X8_played_24 h) (fun _ k => Fr_trans (Fr_refl _ h) (Fr_mono fs_X8_played_24__X8_played k))
          · exact pk_mono (w_f_X8_played_24 h) (fun _ k => Fr_trans (Fr_refl _ h) (Fr_mono fs_X8_played_24__X8_played k))
def S_X8_undo_21 : CL := []
theorem w_f_X8_undo_21 (h : HS) (y0 : Int32) : pk (f_X8_undo_21 h y0) (fun a => Fr S_X8_undo_21 h a.2) := by
  unfold f_X8_undo_21
  exact pk_some (Fr_refl _ h)
def S_X8_undo : CL := [(0, 1, 5), (0, 1, 7), (0, 1, 8), (0, 1, 12), (1, 1, 0)]
theorem fs_X4_takeStepBack__X8_undo : ∀ x ∈ S_X4_takeStepBack, x ∈ S_X8_undo := by decide
theorem fs_X8_undo_21__X8_undo : ∀ x ∈ S_X8_undo_21, x ∈ S_X8_undo := by decide
theorem w_f_X8_undo (h : HS) : pk (f_X8_undo h) (fun a => Fr S_X8_undo h a.2) := by
  unfold f_X8_undo
  refine pk_ob2 (w_f_X4_takeStepBack h) (fun r_1 h_1 k_1 => ?_)
  replace k_1 := Fr_trans (Fr_refl _ h) (Fr_mono fs_X4_takeStepBack__X8_undo k_1)
  refine pk_if (fun _ => ?_) (fun _ => ?_)
  · exact pk_mono (w_f_X8_undo_21 h_1 (-1)) (fun _ k => Fr_trans k_1 (Fr_mono fs_X8_undo_21__X8_undo k))
  · exact pk_mono (w_f_X8_undo_21 h_1 (eI h_1 1 12)) (fun _ k => Fr_trans k_1 (Fr_mono fs_X8_undo_21__X8_undo k))
def S_X8_of_21 : CL := []
theorem w_f_X8_of_21 (h : HS) : pk (f_X8_of_21 h) (fun a => Fr S_X8_of_21 h a.2) := by
  unfold f_X8_of_21
  exact pk_some (Fr_refl _ h)
def S_X8_of_50 : CL := []
theorem w_f_X8_of_50 (h : HS) (y0 : Int32) : pk (f_X8_of_50 h y0) (fun a => Fr S_X8_of_50 h a.2) := by
  unfold f_X8_of_50
  exact pk_some (Fr_refl _ h)
def S_X8_of : CL := [(0, 6, 3), (1, 6, 1), (1, 6, 2)]
theorem fs_X4_hasGoose__X8_of : ∀ x ∈ S_X4_hasGoose, x ∈ S_X8_of := by decide
theorem fs_X8_of_21__X8_of : ∀ x ∈ S_X8_of_21, x ∈ S_X8_of := by decide
theorem fs_X1_isTrue__X8_of : ∀ x ∈ S_X1_isTrue, x ∈ S_X8_of := by decide
theorem fs_X8_of_50__X8_of : ∀ x ∈ S_X8_of_50, x ∈ S_X8_of := by decide
theorem fs_X4_ofGoose__X8_of : ∀ x ∈ S_X4_ofGoose, x ∈ S_X8_of := by decide
theorem w_f_X8_of (h : HS) (p1 : Int32) (p2 : Int32) : pk (f_X8_of h p1 p2) (fun a => Fr S_X8_of h a.2) := by
  unfold f_X8_of
  refine pk_ob2 (w_f_X4_hasGoose h p1) (fun r_1 h_1 k_1 => ?_)
  replace k_1 := Fr_trans (Fr_refl _ h) (Fr_mono fs_X4_hasGoose__X8_of k_1)
  refine pk_if (fun _ => ?_) (fun _ => ?_)
  · exact pk_mono (w_f_X8_of_21 h_1) (fun _ k => Fr_trans k_1 (Fr_mono fs_X8_of_21__X8_of k))
  · refine pk_if (fun _ => ?_) (fun _ => ?_)
    · exact pk_mono (w_f_X8_of_21 h_1) (fun _ k => Fr_trans k_1 (Fr_mono fs_X8_of_21__X8_of k))
    · refine pk_if (fun _ => ?_) (fun _ => ?_)
      · refine pk_if (fun _ => ?_) (fun _ => ?_)
        · refine pk_ob2 (w_f_X1_isTrue h_1 p1) (fun r_7 h_7 k_2 => ?_)
          replace k_2 := Fr_trans k_1 (Fr_mono fs_X1_isTrue__X8_of k_2)
          refine pk_if (fun _ => ?_) (fun _ => ?_)
          · exact pk_mono (w_f_X8_of_50 h_7 0) (fun _ k => Fr_trans k_2 (Fr_mono fs_X8_of_50__X8_of k))
          · exact pk_mono (w_f_X8_of_50 h_7 1) (fun _ k => Fr_trans k_2 (Fr_mono fs_X8_of_50__X8_of k))
        · refine pk_ob2 (w_f_X4_ofGoose h_1 p1 p2) (fun r_6 h_6 k_3 => ?_)
          replace k_3 := Fr_trans k_1 (Fr_mono fs_X4_ofGoose__X8_of k_3)
          exact pk_some k_3
      · exact pk_mono (w_f_X8_of_21 h_1) (fun _ k => Fr_trans k_1 (Fr_mono fs_X8_of_21__X8_of k))
def S_X8_ink_19 : CL := []
theorem w_f_X8_ink_19 (h : HS) : pk (f_X8_ink_19 h) (fun a => Fr S_X8_ink_19 h a.2) := by
  unfold f_X8_ink_19
  exact pk_some (Fr_refl _ h)
def S_X8_ink : CL := [(0, 6, 3), (1, 6, 1), (1, 6, 2)]
theorem fs_X4_hasGoose__X8_ink : ∀ x ∈ S_X4_hasGoose, x ∈ S_X8_ink := by decide
theorem fs_X8_ink_19__X8_ink : ∀ x ∈ S_X8_ink_19, x ∈ S_X8_ink := by decide
theorem fs_X1_inkCost__X8_ink : ∀ x ∈ S_X1_inkCost, x ∈ S_X8_ink := by decide
theorem w_f_X8_ink (h : HS) (p1 : Int32) (p2 : Int32) (p3 : Int32) : pk (f_X8_ink h p1 p2 p3) (fun a => Fr S_X8_ink h a.2) := by
  unfold f_X8_ink
  refine pk_ob2 (w_f_X4_hasGoose h p1) (fun r_1 h_1 k_1 => ?_)
  replace k_1 := Fr_trans (Fr_refl _ h) (Fr_mono fs_X4_hasGoose__X8_ink k_1)
  refine pk_if (fun _ => ?_) (fun _ => ?_)
  · exact pk_mono (w_f_X8_ink_19 h_1) (fun _ k => Fr_trans k_1 (Fr_mono fs_X8_ink_19__X8_ink k))
  · refine pk_obf (fun r_3 => ?_)
    refine pk_if (fun _ => ?_) (fun _ => ?_)
    · exact pk_mono (w_f_X8_ink_19 h_1) (fun _ k => Fr_trans k_1 (Fr_mono fs_X8_ink_19__X8_ink k))
    · refine pk_ob2 (w_f_X1_inkCost h_1 p1 p2 p3) (fun r_5 h_5 k_2 => ?_)
      replace k_2 := Fr_trans k_1 (Fr_mono fs_X1_inkCost__X8_ink k_2)
      exact pk_some k_2
def S_X8_tells_71 : CL := []
theorem w_f_X8_tells_71 (h : HS) (y0 : Int32) : pk (f_X8_tells_71 h y0) (fun a => Fr S_X8_tells_71 h a.2) := by
  unfold f_X8_tells_71
  refine pk_chk (fun _ => ?_)
  exact pk_some (Fr_refl _ h)
def S_X8_tells_70 : CL := []
theorem fs_X8_tells_71__X8_tells_70 : ∀ x ∈ S_X8_tells_71, x ∈ S_X8_tells_70 := by decide
theorem w_f_X8_tells_70 (h : HS) : pk (f_X8_tells_70 h) (fun a => Fr S_X8_tells_70 h a.2) := by
  unfold f_X8_tells_70
  exact pk_mono (w_f_X8_tells_71 h 0) (fun _ k => Fr_trans (Fr_refl _ h) (Fr_mono fs_X8_tells_71__X8_tells_70 k))
def S_X8_tells_37 : CL := []
theorem w_f_X8_tells_37 (h : HS) (y0 : Int32) : pk (f_X8_tells_37 h y0) (fun a => Fr S_X8_tells_37 h a.2) := by
  unfold f_X8_tells_37
  refine pk_chk (fun _ => ?_)
  exact pk_some (Fr_refl _ h)
def S_X8_tells : CL := [(0, 6, 3), (1, 6, 1), (1, 6, 2)]
theorem fs_X4_ofGoose__X8_tells : ∀ x ∈ S_X4_ofGoose, x ∈ S_X8_tells := by decide
theorem fs_X1_isTrue__X8_tells : ∀ x ∈ S_X1_isTrue, x ∈ S_X8_tells := by decide
theorem fs_X8_tells_70__X8_tells : ∀ x ∈ S_X8_tells_70, x ∈ S_X8_tells := by decide
theorem fs_X8_tells_71__X8_tells : ∀ x ∈ S_X8_tells_71, x ∈ S_X8_tells := by decide
theorem fs_X8_tells_37__X8_tells : ∀ x ∈ S_X8_tells_37, x ∈ S_X8_tells := by decide
theorem w_f_X8_tells (h : HS) (p1 : Int32) (p2 : Int32) (p3 : Int32) : pk (f_X8_tells h p1 p2 p3) (fun a => Fr S_X8_tells h a.2) := by
  unfold f_X8_tells
  refine pk_ob2 (w_f_X4_ofGoose h p1 2) (fun r_1 h_1 k_1 => ?_)
  replace k_1 := Fr_trans (Fr_refl _ h) (Fr_mono fs_X4_ofGoose__X8_tells k_1)
  refine pk_if (fun _ => ?_) (fun _ => ?_)
  · refine pk_if (fun _ => ?_) (fun _ => ?_)
    · refine pk_ob2 (w_f_X4_ofGoose h_1 p1 4) (fun r_4 h_4 k_2 => ?_)
      replace k_2 := Fr_trans k_1 (Fr_mono fs_X4_ofGoose__X8_tells k_2)
      refine pk_if (fun _ => ?_) (fun _ => ?_)
      · refine pk_ob2 (w_f_X1_isTrue h_4 p1) (fun r_6 h_6 k_3 => ?_)
        replace k_3 := Fr_trans k_2 (Fr_mono fs_X1_isTrue__X8_tells k_3)
        refine pk_if (fun _ => ?_) (fun _ => ?_)
        · exact pk_mono (w_f_X8_tells_70 h_6) (fun _ k => Fr_trans k_3 (Fr_mono fs_X8_tells_70__X8_tells k))
        · exact pk_mono (w_f_X8_tells_71 h_6 1) (fun _ k => Fr_trans k_3 (Fr_mono fs_X8_tells_71__X8_tells k))
      · exact pk_mono (w_f_X8_tells_70 h_4) (fun _ k => Fr_trans k_2 (Fr_mono fs_X8_tells_70__X8_tells k))
    · refine pk_ob2 (w_f_X4_ofGoose h_1 p1 4) (fun r_8 h_8 k_4 => ?_)
      replace k_4 := Fr_trans k_1 (Fr_mono fs_X4_ofGoose__X8_tells k_4)
      refine pk_if (fun _ => ?_) (fun _ => ?_)
      · exact pk_mono (w_f_X8_tells_37 h_8 1) (fun _ k => Fr_trans k_4 (Fr_mono fs_X8_tells_37__X8_tells k))
      · exact pk_mono (w_f_X8_tells_37 h_8 0) (fun _ k => Fr_trans k_4 (Fr_mono fs_X8_tells_37__X8_tells k))
  · exact pk_some k_1
def S_X8_halvesHad_6 : CL := [(0, 6, 3), (1, 6, 1), (1, 6, 2)]
theorem w_f_X8_halvesHad_79 (k6 : HS → Int32 → Int32 → Int32 → Int32 → Int32 → Int32 → Option (Int32 × HS)) (hk_k6 : ∀ (h : HS) (x0 : Int32) (x1 : Int32) (x2 : Int32) (x3 : Int32) (x4 : Int32) (x5 : Int32), pk (k6 h x0 x1 x2 x3 x4 x5) (fun a => Fr S_X8_halvesHad_6 h a.2)) (h : HS) (x1 : Int32) (x2 : Int32) (x3 : Int32) (x4 : Int32) (x5 : Int32) (x6 : Int32) : pk (f_X8_halvesHad_79 k6 h x1 x2 x3 x4 x5 x6) (fun a => Fr S_X8_halvesHad_6 h a.2) := by
  unfold f_X8_halvesHad_79
  exact pk_mono (hk_k6 h x1 x2 x3 x4 x5 (x6 + 1)) (fun _ k => Fr_trans (Fr_refl _ h) k)
theorem fs_X8_tells__X8_halvesHad_6 : ∀ x ∈ S_X8_tells, x ∈ S_X8_halvesHad_6 := by decide
theorem fs_X4_ofGoose__X8_halvesHad_6 : ∀ x ∈ S_X4_ofGoose, x ∈ S_X8_halvesHad_6 := by decide
theorem w_f_X8_halvesHad_50 (k6 : HS → Int32 → Int32 → Int32 → Int32 → Int32 → Int32 → Option (Int32 × HS)) (hk_k6 : ∀ (h : HS) (x0 : Int32) (x1 : Int32) (x2 : Int32) (x3 : Int32) (x4 : Int32) (x5 : Int32), pk (k6 h x0 x1 x2 x3 x4 x5) (fun a => Fr S_X8_halvesHad_6 h a.2)) (h : HS) (x1 : Int32) (x2 : Int32) (x3 : Int32) (x4 : Int32) (x5 : Int32) (x6 : Int32) : pk (f_X8_halvesHad_50 k6 h x1 x2 x3 x4 x5 x6) (fun a => Fr S_X8_halvesHad_6 h a.2) := by
  unfold f_X8_halvesHad_50
  refine pk_ob2 (w_f_X8_tells h x6 x1 x2) (fun r_6 h_6 k_1 => ?_)
  replace k_1 := Fr_trans (Fr_refl _ h) (Fr_mono fs_X8_tells__X8_halvesHad_6 k_1)
  refine pk_if (fun _ => ?_) (fun _ => ?_)
  · exact pk_mono (w_f_X8_halvesHad_79 k6 hk_k6 h_6 x1 x2 x3 x4 x5 x6) (fun _ k => Fr_trans k_1 k)
  · refine pk_ob2 (w_f_X4_ofGoose h_6 x6 3) (fun r_8 h_8 k_2 => ?_)
    replace k_2 := Fr_trans k_1 (Fr_mono fs_X4_ofGoose__X8_halvesHad_6 k_2)
    refine pk_obf (fun r_9 => ?_)
    exact pk_mono (w_f_X8_halvesHad_79 k6 hk_k6 h_8 x1 x2 x3 x4 (x5 ||| r_9) x6) (fun _ k => Fr_trans k_2 k)
theorem w_f_X8_halvesHad_6  : ∀ (n : Nat) (h : HS) (x1 : Int32) (x2 : Int32) (x3 : Int32) (x4 : Int32) (x5 : Int32) (x6 : Int32), pk (f_X8_halvesHad_6  n h x1 x2 x3 x4 x5 x6) (fun a => Fr S_X8_halvesHad_6 h a.2) := by
  intro n
  induction n with
  | zero => intro h x1 x2 x3 x4 x5 x6; exact pk_none
  | succ n ih =>
    intro h x1 x2 x3 x4 x5 x6
    rw [f_X8_halvesHad_6_s]
    refine pk_if (fun _ => ?_) (fun _ => ?_)
    · exact pk_some (Fr_refl _ h)
    · refine pk_ob2 (w_f_X4_ofGoose h x6 7) (fun r_2 h_2 k_1 => ?_)
      replace k_1 := Fr_trans (Fr_refl _ h) (Fr_mono fs_X4_ofGoose__X8_halvesHad_6 k_1)
      refine pk_if (fun _ => ?_) (fun _ => ?_)
      · exact pk_mono (w_f_X8_halvesHad_50 (f_X8_halvesHad_6 n) ih h_2 x1 x2 x3 x4 x5 x6) (fun _ k => Fr_trans k_1 k)
      · refine pk_if (fun _ => ?_) (fun _ => ?_)
        · refine pk_if (fun _ => ?_) (fun _ => ?_)
          · exact pk_mono (w_f_X8_halvesHad_79 (f_X8_halvesHad_6 n) ih h_2 x1 x2 x3 x4 x5 x6) (fun _ k => Fr_trans k_1 k)
          · exact pk_mono (w_f_X8_halvesHad_50 (f_X8_halvesHad_6 n) ih h_2 x1 x2 x3 x4 x5 x6) (fun _ k => Fr_trans k_1 k)
        · exact pk_mono (w_f_X8_halvesHad_79 (f_X8_halvesHad_6 n) ih h_2 x1 x2 x3 x4 x5 x6) (fun _ k => Fr_trans k_1 k)
def S_X8_halvesHad : CL := [(0, 6, 3), (1, 6, 1), (1, 6, 2)]
theorem fs_X8_halvesHad_6__X8_halvesHad : ∀ x ∈ S_X8_halvesHad_6, x ∈ S_X8_halvesHad := by decide
theorem w_f_X8_halvesHad (h : HS) (p1 : Int32) (p2 : Int32) (p3 : Int32) (p4 : Int32) : pk (f_X8_halvesHad h p1 p2 p3 p4) (fun a => Fr S_X8_halvesHad h a.2) := by
  unfold f_X8_halvesHad
  exact pk_mono (w_f_X8_halvesHad_6 8589934592 h p1 p2 p3 p4 0 0) (fun _ k => Fr_trans (Fr_refl _ h) (Fr_mono fs_X8_halvesHad_6__X8_halvesHad k))
def S_X8_known_18 : CL := []
theorem w_f_X8_known_18 (h : HS) : pk (f_X8_known_18 h) (fun a => Fr S_X8_known_18 h a.2) := by
  unfold f_X8_known_18
  exact pk_some (Fr_refl _ h)
def S_X8_known_57 : CL := []
theorem w_f_X8_known_57 (h : HS) (x3 : Int32) (y0 : Int32) : pk (f_X8_known_57 h x3 y0) (fun a => Fr S_X8_known_57 h a.2) := by
  unfold f_X8_known_57
  exact pk_some (Fr_refl _ h)
def S_X8_known_38 : CL := [(0, 6, 3), (1, 6, 1), (1, 6, 2)]
theorem fs_X8_halvesHad__X8_known_38 : ∀ x ∈ S_X8_halvesHad, x ∈ S_X8_known_38 := by decide
theorem fs_X8_known_57__X8_known_38 : ∀ x ∈ S_X8_known_57, x ∈ S_X8_known_38 := by decide
theorem w_f_X8_known_38 (h : HS) (x1 : Int32) (x2 : Int32) (y0 : Int32) : pk (f_X8_known_38 h x1 x2 y0) (fun a => Fr S_X8_known_38 h a.2) := by
  unfold f_X8_known_38
  refine pk_ob2 (w_f_X8_halvesHad h x1 1 x2 10) (fun r_7 h_7 k_1 => ?_)
  replace k_1 := Fr_trans (Fr_refl _ h) (Fr_mono fs_X8_halvesHad__X8_known_38 k_1)
  refine pk_if (fun _ => ?_) (fun _ => ?_)
  · exact pk_mono (w_f_X8_known_57 h_7 y0 2) (fun _ k => Fr_trans k_1 (Fr_mono fs_X8_known_57__X8_known_38 k))
  · exact pk_mono (w_f_X8_known_57 h_7 y0 0) (fun _ k => Fr_trans k_1 (Fr_mono fs_X8_known_57__X8_known_38 k))
def S_X8_known : CL := [(0, 6, 3), (1, 6, 1), (1, 6, 2)]
theorem fs_X8_known_18__X8_known : ∀ x ∈ S_X8_known_18, x ∈ S_X8_known := by decide
theorem fs_X8_halvesHad__X8_known : ∀ x ∈ S_X8_halvesHad, x ∈ S_X8_known := by decide
theorem fs_X8_known_38__X8_known : ∀ x ∈ S_X8_known_38, x ∈ S_X8_known := by decide
theorem w_f_X8_known (h : HS) (p1 : Int32) (p2 : Int32) : pk (f_X8_known h p1 p2) (fun a => Fr S_X8_known h a.2) := by
  unfold f_X8_known
  refine pk_obf (fun r_1 => ?_)
  refine pk_if (fun _ => ?_) (fun _ => ?_)
  · exact pk_mono (w_f_X8_known_18 h) (fun _ k => Fr_trans (Fr_refl _ h) (Fr_mono fs_X8_known_18__X8_known k))
  · refine pk_if (fun _ => ?_) (fun _ => ?_)
    · exact pk_mono (w_f_X8_known_18 h) (fun _ k => Fr_trans (Fr_refl _ h) (Fr_mono fs_X8_known_18__X8_known k))
    · refine pk_if (fun _ => ?_) (fun _ => ?_)
      · refine pk_ob2 (w_f_X8_halvesHad h p1 0 p2 10) (fun r_5 h_5 k_1 => ?_)
        replace k_1 := Fr_trans (Fr_refl _ h) (Fr_mono fs_X8_halvesHad__X8_known k_1)
        refine pk_if (fun _ => ?_) (fun _ => ?_)
        · exact pk_mono (w_f_X8_known_38 h_5 p1 p2 1) (fun _ k => Fr_trans k_1 (Fr_mono fs_X8_known_38__X8_known k))
        · exact pk_mono (w_f_X8_known_38 h_5 p1 p2 0) (fun _ k => Fr_trans k_1 (Fr_mono fs_X8_known_38__X8_known k))
      · exact pk_mono (w_f_X8_known_18 h) (fun _ k => Fr_trans (Fr_refl _ h) (Fr_mono fs_X8_known_18__X8_known k))
def S_X8_led_14 : CL := [(0, 6, 3), (1, 6, 1), (1, 6, 2)]
theorem w_f_X8_led_101 (k14 : HS → Int32 → Int32 → Int32 → Int32 → Option (Int32 × HS)) (hk_k14 : ∀ (h : HS) (x0 : Int32) (x1 : Int32) (x2 : Int32) (x3 : Int32), pk (k14 h x0 x1 x2 x3) (fun a => Fr S_X8_led_14 h a.2)) (h : HS) (x1 : Int32) (x2 : Int32) (x3 : Int32) (x4 : Int32) : pk (f_X8_led_101 k14 h x1 x2 x3 x4) (fun a => Fr S_X8_led_14 h a.2) := by
  unfold f_X8_led_101
  exact pk_mono (hk_k14 h x1 x2 x3 (x4 + 1)) (fun _ k => Fr_trans (Fr_refl _ h) k)
theorem fs_X8_tells__X8_led_14 : ∀ x ∈ S_X8_tells, x ∈ S_X8_led_14 := by decide
theorem fs_X8_halvesHad__X8_led_14 : ∀ x ∈ S_X8_halvesHad, x ∈ S_X8_led_14 := by decide
theorem w_f_X8_led_64 (k14 : HS → Int32 → Int32 → Int32 → Int32 → Option (Int32 × HS)) (hk_k14 : ∀ (h : HS) (x0 : Int32) (x1 : Int32) (x2 : Int32) (x3 : Int32), pk (k14 h x0 x1 x2 x3) (fun a => Fr S_X8_led_14 h a.2)) (h : HS) (x1 : Int32) (x2 : Int32) (x3 : Int32) (x4 : Int32) (x5 : Int32) (y0 : Int32) : pk (f_X8_led_64 k14 h x1 x2 x3 x4 x5 y0) (fun a => Fr S_X8_led_14 h a.2) := by
  unfold f_X8_led_64
  refine pk_if (fun _ => ?_) (fun _ => ?_)
  · exact pk_mono (w_f_X8_led_101 k14 hk_k14 h x1 x2 x3 x4) (fun _ k => Fr_trans (Fr_refl _ h) k)
  · refine pk_ob2 (w_f_X8_tells h x4 x1 x2) (fun r_9 h_9 k_1 => ?_)
    replace k_1 := Fr_trans (Fr_refl _ h) (Fr_mono fs_X8_tells__X8_led_14 k_1)
    refine pk_if (fun _ => ?_) (fun _ => ?_)
    · exact pk_mono (w_f_X8_led_101 k14 hk_k14 h_9 x1 x2 x3 x4) (fun _ k => Fr_trans k_1 k)
    · refine pk_ob2 (w_f_X8_halvesHad h_9 x1 x2 x5 (x4 + 1)) (fun r_11 h_11 k_2 => ?_)
      replace k_2 := Fr_trans k_1 (Fr_mono fs_X8_halvesHad__X8_led_14 k_2)
      refine pk_if (fun _ => ?_) (fun _ => ?_)
      · exact pk_mono (w_f_X8_led_101 k14 hk_k14 h_11 x1 x2 x4 x4) (fun _ k => Fr_trans k_2 k)
      · exact pk_mono (w_f_X8_led_101 k14 hk_k14 h_11 x1 x2 x3 x4) (fun _ k => Fr_trans k_2 k)
theorem w_f_X8_led_59 (k14 : HS → Int32 → Int32 → Int32 → Int32 → Option (Int32 × HS)) (hk_k14 : ∀ (h : HS) (x0 : Int32) (x1 : Int32) (x2 : Int32) (x3 : Int32), pk (k14 h x0 x1 x2 x3) (fun a => Fr S_X8_led_14 h a.2)) (h : HS) (x1 : Int32) (x2 : Int32) (x3 : Int32) (x4 : Int32) (x5 : Int32) : pk (f_X8_led_59 k14 h x1 x2 x3 x4 x5) (fun a => Fr S_X8_led_14 h a.2) := by
  unfold f_X8_led_59
  exact pk_mono (w_f_X8_led_64 k14 hk_k14 h x1 x2 x3 x4 x5 1) (fun _ k => Fr_trans (Fr_refl _ h) k)
theorem fs_X4_ofGoose__X8_led_14 : ∀ x ∈ S_X4_ofGoose, x ∈ S_X8_led_14 := by decide
theorem w_f_X8_led_14  : ∀ (n : Nat) (h : HS) (x1 : Int32) (x2 : Int32) (x3 : Int32) (x4 : Int32), pk (f_X8_led_14  n h x1 x2 x3 x4) (fun a => Fr S_X8_led_14 h a.2) := by
  intro n
  induction n with
  | zero => intro h x1 x2 x3 x4; exact pk_none
  | succ n ih =>
    intro h x1 x2 x3 x4
    rw [f_X8_led_14_s]
    refine pk_if (fun _ => ?_) (fun _ => ?_)
    · exact pk_some (Fr_refl _ h)
    · refine pk_ob2 (w_f_X4_ofGoose h x4 7) (fun r_4 h_4 k_1 => ?_)
      replace k_1 := Fr_trans (Fr_refl _ h) (Fr_mono fs_X4_ofGoose__X8_led_14 k_1)
      refine pk_if (fun _ => ?_) (fun _ => ?_)
      · exact pk_mono (w_f_X8_led_59 (f_X8_led_14 n) ih h_4 x1 x2 x3 x4 r_4) (fun _ k => Fr_trans k_1 k)
      · refine pk_ob2 (w_f_X4_ofGoose h_4 x3 7) (fun r_6 h_6 k_2 => ?_)
        replace k_2 := Fr_trans k_1 (Fr_mono fs_X4_ofGoose__X8_led_14 k_2)
        refine pk_if (fun _ => ?_) (fun _ => ?_)
        · exact pk_mono (w_f_X8_led_64 (f_X8_led_14 n) ih h_6 x1 x2 x3 x4 r_4 0) (fun _ k => Fr_trans k_2 k)
        · exact pk_mono (w_f_X8_led_59 (f_X8_led_14 n) ih h_6 x1 x2 x3 x4 r_4) (fun _ k => Fr_trans k_2 k)
def S_X8_led : CL := [(0, 6, 3), (1, 6, 1), (1, 6, 2)]
theorem fs_X8_led_14__X8_led : ∀ x ∈ S_X8_led_14, x ∈ S_X8_led := by decide
theorem w_f_X8_led (h : HS) (p1 : Int32) (p2 : Int32) : pk (f_X8_led h p1 p2) (fun a => Fr S_X8_led h a.2) := by
  unfold f_X8_led
  refine pk_obf (fun r_1 => ?_)
  refine pk_if (fun _ => ?_) (fun _ => ?_)
  · exact pk_some (Fr_refl _ h)
  · exact pk_mono (w_f_X8_led_14 8589934592 h p1 p2 (-1) 0) (fun _ k => Fr_trans (Fr_refl _ h) (Fr_mono fs_X8_led_14__X8_led k))
def S_X8_answer : CL := [(0, 6, 3), (1, 6, 1), (1, 6, 2)]
theorem fs_X8_led__X8_answer : ∀ x ∈ S_X8_led, x ∈ S_X8_answer := by decide
theorem fs_X4_ofGoose__X8_answer : ∀ x ∈ S_X4_ofGoose, x ∈ S_X8_answer := by decide
theorem fs_X4_ofMarket__X8_answer : ∀ x ∈ S_X4_ofMarket, x ∈ S_X8_answer := by decide
theorem w_f_X8_answer (h : HS) (p1 : Int32) : pk (f_X8_answer h p1) (fun a => Fr S_X8_answer h a.2) := by
  unfold f_X8_answer
  refine pk_ob2 (w_f_X8_led h p1 0) (fun r_1 h_1 k_1 => ?_)
  replace k_1 := Fr_trans (Fr_refl _ h) (Fr_mono fs_X8_led__X8_answer k_1)
  refine pk_if (fun _ => ?_) (fun _ => ?_)
  · exact pk_some k_1
  · refine pk_ob2 (w_f_X4_ofGoose h_1 r_1 7) (fun r_3 h_3 k_2 => ?_)
    replace k_2 := Fr_trans k_1 (Fr_mono fs_X4_ofGoose__X8_answer k_2)
    refine pk_ob2 (w_f_X4_ofGoose h_3 r_1 5) (fun r_4 h_4 k_3 => ?_)
    replace k_3 := Fr_trans k_2 (Fr_mono fs_X4_ofGoose__X8_answer k_3)
    refine pk_ob2 (w_f_X4_ofMarket h_4 r_4 0) (fun r_5 h_5 k_4 => ?_)
    replace k_4 := Fr_trans k_3 (Fr_mono fs_X4_ofMarket__X8_answer k_4)
    exact pk_some k_4
def S_X8_plucks_12 : CL := [(0, 6, 3), (1, 6, 1), (1, 6, 2)]
theorem fs_X1_isTrueWith__X8_plucks_12 : ∀ x ∈ S_X1_isTrueWith, x ∈ S_X8_plucks_12 := by decide
theorem w_f_X8_plucks_12  : ∀ (n : Nat) (h : HS) (x1 : Int32) (x2 : Int32) (x3 : Int32), pk (f_X8_plucks_12  n h x1 x2 x3) (fun a => Fr S_X8_plucks_12 h a.2) := by
  intro n
  induction n with
  | zero => intro h x1 x2 x3; exact pk_none
  | succ n ih =>
    intro h x1 x2 x3
    rw [f_X8_plucks_12_s]
    refine pk_if (fun _ => ?_) (fun _ => ?_)
    · exact pk_some (Fr_refl _ h)
    · refine pk_ob2 (w_f_X1_isTrueWith h x1 (x2 - x3)) (fun r_3 h_3 k_1 => ?_)
      replace k_1 := Fr_trans (Fr_refl _ h) (Fr_mono fs_X1_isTrueWith__X8_plucks_12 k_1)
      refine pk_if (fun _ => ?_) (fun _ => ?_)
      · exact pk_mono (ih h_3 x1 x2 (x3 + 1)) (fun _ k => Fr_trans k_1 k)
      · exact pk_some k_1
def S_X8_plucks : CL := [(0, 6, 3), (1, 6, 1), (1, 6, 2)]
theorem fs_X4_ofGoose__X8_plucks : ∀ x ∈ S_X4_ofGoose, x ∈ S_X8_plucks := by decide
theorem fs_X8_plucks_12__X8_plucks : ∀ x ∈ S_X8_plucks_12, x ∈ S_X8_plucks := by decide
theorem w_f_X8_plucks (h : HS) (p1 : Int32) : pk (f_X8_plucks h p1) (fun a => Fr S_X8_plucks h a.2) := by
  unfold f_X8_plucks
  refine pk_ob2 (w_f_X4_ofGoose h p1 1) (fun r_1 h_1 k_1 => ?_)
  replace k_1 := Fr_trans (Fr_refl _ h) (Fr_mono fs_X4_ofGoose__X8_plucks k_1)
  exact pk_mono (w_f_X8_plucks_12 8589934592 h_1 p1 r_1 0) (fun _ k => Fr_trans k_1 (Fr_mono fs_X8_plucks_12__X8_plucks k))
def S_X8_odds_16 : CL := []
theorem w_f_X8_odds_16 (h : HS) : pk (f_X8_odds_16 h) (fun a => Fr S_X8_odds_16 h a.2) := by
  unfold f_X8_odds_16
  exact pk_some (Fr_refl _ h)
def S_X8_odds_171 : CL := []
theorem w_f_X8_odds_171 (h : HS) (x6 : Int64) (y0 : Int64) : pk (f_X8_odds_171 h x6 y0) (fun a => Fr S_X8_odds_171 h a.2) := by
  unfold f_X8_odds_171
  refine pk_chk (fun _ => ?_)
  exact pk_some (Fr_refl _ h)
def S_X8_odds_52 : CL := [(0, 6, 3), (0, 7, 0), (1, 6, 1), (1, 6, 2), (2, 7, 1), (3, 7, 2), (3, 7, 3)]
theorem w_f_X8_odds_109 (k52 : HS → Int32 → Int32 → Int32 → Int32 → Option (Int64 × HS)) (hk_k52 : ∀ (h : HS) (x0 : Int32) (x1 : Int32) (x2 : Int32) (x3 : Int32), pk (k52 h x0 x1 x2 x3) (fun a => Fr S_X8_odds_52 h a.2)) (h : HS) (x1 : Int32) (x2 : Int32) (x3 : Int32) (x4 : Int32) : pk (f_X8_odds_109 k52 h x1 x2 x3 x4) (fun a => Fr S_X8_odds_52 h a.2) := by
  unfold f_X8_odds_109
  exact pk_mono (hk_k52 h x1 x2 x3 (x4 + 1)) (fun _ k => Fr_trans (Fr_refl _ h) k)
theorem fs_X0_upper__X8_odds_52 : ∀ x ∈ S_X0_upper, x ∈ S_X8_odds_52 := by decide
theorem fs_X8_odds_171__X8_odds_52 : ∀ x ∈ S_X8_odds_171, x ∈ S_X8_odds_52 := by decide
theorem fs_X4_ofGoose__X8_odds_52 : ∀ x ∈ S_X4_ofGoose, x ∈ S_X8_odds_52 := by decide
theorem fs_X0_add__X8_odds_52 : ∀ x ∈ S_X0_add, x ∈ S_X8_odds_52 := by decide
theorem w_f_X8_odds_52  : ∀ (n : Nat) (h : HS) (x1 : Int32) (x2 : Int32) (x3 : Int32) (x4 : Int32), pk (f_X8_odds_52  n h x1 x2 x3 x4) (fun a => Fr S_X8_odds_52 h a.2) := by
  intro n
  induction n with
  | zero => intro h x1 x2 x3 x4; exact pk_none
  | succ n ih =>
    intro h x1 x2 x3 x4
    rw [f_X8_odds_52_s]
    refine pk_if (fun _ => ?_) (fun _ => ?_)
    · refine pk_if (fun _ => ?_) (fun _ => ?_)
      · refine pk_ob2 (w_f_X0_upper h x2) (fun r_10 h_10 k_1 => ?_)
        replace k_1 := Fr_trans (Fr_refl _ h) (Fr_mono fs_X0_upper__X8_odds_52 k_1)
        refine pk_obf (fun r_11 => ?_)
        refine pk_if (fun _ => ?_) (fun _ => ?_)
        · exact pk_mono (w_f_X8_odds_171 h_10 r_11 r_10) (fun _ k => Fr_trans k_1 (Fr_mono fs_X8_odds_171__X8_odds_52 k))
        · exact pk_mono (w_f_X8_odds_171 h_10 r_11 (eL h_10 7 1)) (fun _ k => Fr_trans k_1 (Fr_mono fs_X8_odds_171__X8_odds_52 k))
      · exact pk_some (Fr_refl _ h)
    · refine pk_ob2 (w_f_X4_ofGoose h x4 4) (fun r_13 h_13 k_2 => ?_)
      replace k_2 := Fr_trans (Fr_refl _ h) (Fr_mono fs_X4_ofGoose__X8_odds_52 k_2)
      refine pk_if (fun _ => ?_) (fun _ => ?_)
      · refine pk_ob2 (w_f_X4_ofGoose h_13 x4 2) (fun r_15 h_15 k_3 => ?_)
        replace k_3 := Fr_trans k_2 (Fr_mono fs_X4_ofGoose__X8_odds_52 k_3)
        refine pk_if (fun _ => ?_) (fun _ => ?_)
        · refine pk_ob1 (w_f_X0_add h_15 x4) (fun h_17 k_4 => ?_)
          replace k_4 := Fr_trans k_3 (Fr_mono fs_X0_add__X8_odds_52 k_4)
          exact pk_mono (w_f_X8_odds_109 (f_X8_odds_52 n) ih h_17 x1 x2 x3 x4) (fun _ k => Fr_trans k_4 k)
        · exact pk_mono (w_f_X8_odds_109 (f_X8_odds_52 n) ih h_15 x1 x2 x3 x4) (fun _ k => Fr_trans k_3 k)
      · exact pk_mono (w_f_X8_odds_109 (f_X8_odds_52 n) ih h_13 x1 x2 x3 x4) (fun _ k => Fr_trans k_2 k)
def S_X8_odds : CL := [(0, 6, 3), (0, 7, 0), (1, 6, 1), (1, 6, 2), (2, 7, 1), (3, 7, 2), (3, 7, 3)]
theorem fs_X8_odds_16__X8_odds : ∀ x ∈ S_X8_odds_16, x ∈ S_X8_odds := by decide
theorem fs_X8_halvesHad__X8_odds : ∀ x ∈ S_X8_halvesHad, x ∈ S_X8_odds := by decide
theorem fs_X0_begin__X8_odds : ∀ x ∈ S_X0_begin, x ∈ S_X8_odds := by decide
theorem fs_X8_odds_52__X8_odds : ∀ x ∈ S_X8_odds_52, x ∈ S_X8_odds := by decide
theorem w_f_X8_odds (h : HS) (p1 : Int32) (p2 : Int32) (p3 : Int32) : pk (f_X8_odds h p1 p2 p3) (fun a => Fr S_X8_odds h a.2) := by
  unfold f_X8_odds
  refine pk_obf (fun r_1 => ?_)
  refine pk_if (fun _ => ?_) (fun _ => ?_)
  · exact pk_mono (w_f_X8_odds_16 h) (fun _ k => Fr_trans (Fr_refl _ h) (Fr_mono fs_X8_odds_16__X8_odds k))
  · refine pk_if (fun _ => ?_) (fun _ => ?_)
    · exact pk_mono (w_f_X8_odds_16 h) (fun _ k => Fr_trans (Fr_refl _ h) (Fr_mono fs_X8_odds_16__X8_odds k))
    · refine pk_if (fun _ => ?_) (fun _ => ?_)
      · refine pk_ob2 (w_f_X8_halvesHad h p1 0 999 10) (fun r_5 h_5 k_1 => ?_)
        replace k_1 := Fr_trans (Fr_refl _ h) (Fr_mono fs_X8_halvesHad__X8_odds k_1)
        refine pk_ob2 (w_f_X8_halvesHad h_5 p1 1 999 10) (fun r_6 h_6 k_2 => ?_)
        replace k_2 := Fr_trans k_1 (Fr_mono fs_X8_halvesHad__X8_odds k_2)
        refine pk_ob1 (w_f_X0_begin h_6 r_5 r_6) (fun h_7 k_3 => ?_)
        replace k_3 := Fr_trans k_2 (Fr_mono fs_X0_begin__X8_odds k_3)
        exact pk_mono (w_f_X8_odds_52 8589934592 h_7 p1 p2 p3 0) (fun _ k => Fr_trans k_3 (Fr_mono fs_X8_odds_52__X8_odds k))
      · exact pk_mono (w_f_X8_odds_16 h) (fun _ k => Fr_trans (Fr_refl _ h) (Fr_mono fs_X8_odds_16__X8_odds k))
def S_X8_plan_34 : CL := []
theorem w_f_X8_plan_34 (h : HS) : pk (f_X8_plan_34 h) (fun a => Fr S_X8_plan_34 h a.2) := by
  unfold f_X8_plan_34
  exact pk_some (Fr_refl _ h)
def S_X8_plan_82 : CL := []
theorem w_f_X8_plan_82 (h : HS) (y0 : Int32) : pk (f_X8_plan_82 h y0) (fun a => Fr S_X8_plan_82 h a.2) := by
  unfold f_X8_plan_82
  exact pk_some (Fr_refl _ h)
def S_X8_plan_37 : CL := [(0, 6, 3), (0, 8, 8), (0, 8, 10), (0, 8, 11), (0, 8, 12), (0, 8, 13), (0, 8, 15), (1, 6, 1), (1, 6, 2), (1, 8, 0), (1, 8, 1), (1, 8, 2), (1, 8, 3), (1, 8, 4), (1, 8, 5), (1, 8, 6), (1, 8, 7), (2, 8, 9), (2, 8, 14)]
theorem fs_X3_fewest__X8_plan_37 : ∀ x ∈ S_X3_fewest, x ∈ S_X8_plan_37 := by decide
theorem fs_X8_plan_82__X8_plan_37 : ∀ x ∈ S_X8_plan_82, x ∈ S_X8_plan_37 := by decide
theorem fs_X3_choiceOf__X8_plan_37 : ∀ x ∈ S_X3_choiceOf, x ∈ S_X8_plan_37 := by decide
theorem w_f_X8_plan_37 (h : HS) (x1 : Int32) (x2 : Int32) (x3 : Int32) : pk (f_X8_plan_37 h x1 x2 x3) (fun a => Fr S_X8_plan_37 h a.2) := by
  unfold f_X8_plan_37
  refine pk_ob2 (w_f_X3_fewest h x1 x2) (fun r_8 h_8 k_1 => ?_)
  replace k_1 := Fr_trans (Fr_refl _ h) (Fr_mono fs_X3_fewest__X8_plan_37 k_1)
  refine pk_if (fun _ => ?_) (fun _ => ?_)
  · exact pk_some k_1
  · refine pk_if (fun _ => ?_) (fun _ => ?_)
    · exact pk_mono (w_f_X8_plan_82 h_8 r_8) (fun _ k => Fr_trans k_1 (Fr_mono fs_X8_plan_82__X8_plan_37 k))
    · refine pk_ob2 (w_f_X3_choiceOf h_8 x3) (fun r_11 h_11 k_2 => ?_)
      replace k_2 := Fr_trans k_1 (Fr_mono fs_X3_choiceOf__X8_plan_37 k_2)
      exact pk_mono (w_f_X8_plan_82 h_11 r_11) (fun _ k => Fr_trans k_2 (Fr_mono fs_X8_plan_82__X8_plan_37 k))
def S_X8_plan : CL := [(0, 6, 3), (0, 8, 8), (0, 8, 10), (0, 8, 11), (0, 8, 12), (0, 8, 13), (0, 8, 15), (1, 6, 1), (1, 6, 2), (1, 8, 0), (1, 8, 1), (1, 8, 2), (1, 8, 3), (1, 8, 4), (1, 8, 5), (1, 8, 6), (1, 8, 7), (2, 8, 9), (2, 8, 14)]
theorem fs_X8_plan_34__X8_plan : ∀ x ∈ S_X8_plan_34, x ∈ S_X8_plan := by decide
theorem fs_X8_plan_37__X8_plan : ∀ x ∈ S_X8_plan_37, x ∈ S_X8_plan := by decide
theorem fs_X4_hasGoose__X8_plan : ∀ x ∈ S_X4_hasGoose, x ∈ S_X8_plan := by decide
theorem w_f_X8_plan (h : HS) (p1 : Int32) (p2 : Int32) (p3 : Int32) : pk (f_X8_plan h p1 p2 p3) (fun a => Fr S_X8_plan h a.2) := by
  unfold f_X8_plan
  refine pk_obf (fun r_1 => ?_)
  refine pk_if (fun _ => ?_) (fun _ => ?_)
  · exact pk_mono (w_f_X8_plan_34 h) (fun _ k => Fr_trans (Fr_refl _ h) (Fr_mono fs_X8_plan_34__X8_plan k))
  · refine pk_if (fun _ => ?_) (fun _ => ?_)
    · exact pk_mono (w_f_X8_plan_34 h) (fun _ k => Fr_trans (Fr_refl _ h) (Fr_mono fs_X8_plan_34__X8_plan k))
    · refine pk_if (fun _ => ?_) (fun _ => ?_)
      · exact pk_mono (w_f_X8_plan_34 h) (fun _ k => Fr_trans (Fr_refl _ h) (Fr_mono fs_X8_plan_34__X8_plan k))
      · refine pk_if (fun _ => ?_) (fun _ => ?_)
        · exact pk_mono (w_f_X8_plan_37 h p1 p2 p3) (fun _ k => Fr_trans (Fr_refl _ h) (Fr_mono fs_X8_plan_37__X8_plan k))
        · refine pk_ob2 (w_f_X4_hasGoose h p3) (fun r_6 h_6 k_1 => ?_)
          replace k_1 := Fr_trans (Fr_refl _ h) (Fr_mono fs_X4_hasGoose__X8_plan k_1)
          refine pk_if (fun _ => ?_) (fun _ => ?_)
          · exact pk_mono (w_f_X8_plan_34 h_6) (fun _ k => Fr_trans k_1 (Fr_mono fs_X8_plan_34__X8_plan k))
          · exact pk_mono (w_f_X8_plan_37 h_6 p1 p2 p3) (fun _ k => Fr_trans k_1 (Fr_mono fs_X8_plan_37__X8_plan k))
def S_X8_holds : CL := []
theorem fs_X4_dailyNeed__X8_holds : ∀ x ∈ S_X4_dailyNeed, x ∈ S_X8_holds := by decide
theorem w_f_X8_holds (h : HS) : pk (f_X8_holds h) (fun a => Fr S_X8_holds h a.2) := by
  unfold f_X8_holds
  refine pk_ob2 (w_f_X4_dailyNeed h) (fun r_1 h_1 k_1 => ?_)
  replace k_1 := Fr_trans (Fr_refl _ h) (Fr_mono fs_X4_dailyNeed__X8_holds k_1)
  refine pk_if (fun _ => ?_) (fun _ => ?_)
  · refine pk_chk (fun _ => ?_)
    exact pk_some k_1
  · exact pk_some k_1
def S_X8_image : CL := [(0, 2, 3), (0, 2, 4), (0, 2, 5), (0, 2, 6), (0, 2, 7), (0, 2, 8), (0, 2, 9), (0, 2, 10), (0, 2, 11), (0, 2, 12), (1, 2, 0), (1, 2, 1), (1, 2, 2)]
theorem fs_X4_copyFrom_i__X8_image : ∀ x ∈ S_X4_copyFrom_i, x ∈ S_X8_image := by decide
theorem w_f_X8_image (h : HS) : pk (f_X8_image h) (fun a => Fr S_X8_image h a.2) := by
  unfold f_X8_image
  refine pk_ob1 (w_f_X4_copyFrom_i h) (fun h_1 k_1 => ?_)
  replace k_1 := Fr_trans (Fr_refl _ h) (Fr_mono fs_X4_copyFrom_i__X8_image k_1)
  exact pk_some k_1
def S_X8_back : CL := [(0, 1, 3), (0, 1, 4), (0, 1, 5), (0, 1, 6), (0, 1, 7), (0, 1, 8), (0, 1, 9), (0, 1, 10), (0, 1, 11), (0, 1, 12), (1, 1, 0), (1, 1, 1), (1, 1, 2)]
theorem fs_X4_copyFrom_b__X8_back : ∀ x ∈ S_X4_copyFrom_b, x ∈ S_X8_back := by decide
theorem w_f_X8_back (h : HS) : pk (f_X8_back h) (fun a => Fr S_X8_back h a.2) := by
  unfold f_X8_back
  refine pk_ob1 (w_f_X4_copyFrom_b h) (fun h_1 k_1 => ?_)
  replace k_1 := Fr_trans (Fr_refl _ h) (Fr_mono fs_X4_copyFrom_b__X8_back k_1)
  exact pk_some k_1
def S_X8_aboutMany_44 : CL := []
theorem w_f_X8_aboutMany_44 (h : HS) : pk (f_X8_aboutMany_44 h) (fun a => Fr S_X8_aboutMany_44 h a.2) := by
  unfold f_X8_aboutMany_44
  exact pk_some (Fr_refl _ h)
def S_X8_aboutMany_24 : CL := []
theorem fs_X8_aboutMany_44__X8_aboutMany_24 : ∀ x ∈ S_X8_aboutMany_44, x ∈ S_X8_aboutMany_24 := by decide
theorem fs_X4_ofMarket__X8_aboutMany_24 : ∀ x ∈ S_X4_ofMarket, x ∈ S_X8_aboutMany_24 := by decide
theorem w_f_X8_aboutMany_24 (h : HS) (x1 : Int32) : pk (f_X8_aboutMany_24 h x1) (fun a => Fr S_X8_aboutMany_24 h a.2) := by
  unfold f_X8_aboutMany_24
  refine pk_if (fun _ => ?_) (fun _ => ?_)
  · exact pk_mono (w_f_X8_aboutMany_44 h) (fun _ k => Fr_trans (Fr_refl _ h) (Fr_mono fs_X8_aboutMany_44__X8_aboutMany_24 k))
  · refine pk_if (fun _ => ?_) (fun _ => ?_)
    · refine pk_ob2 (w_f_X4_ofMarket h (x1 - 10) 0) (fun r_6 h_6 k_1 => ?_)
      replace k_1 := Fr_trans (Fr_refl _ h) (Fr_mono fs_X4_ofMarket__X8_aboutMany_24 k_1)
      refine pk_ob2 (w_f_X4_ofMarket h_6 (x1 - 10) 1) (fun r_7 h_7 k_2 => ?_)
      replace k_2 := Fr_trans k_1 (Fr_mono fs_X4_ofMarket__X8_aboutMany_24 k_2)
      refine pk_ob2 (w_f_X4_ofMarket h_7 (x1 - 10) 2) (fun r_8 h_8 k_3 => ?_)
      replace k_3 := Fr_trans k_2 (Fr_mono fs_X4_ofMarket__X8_aboutMany_24 k_3)
      exact pk_some k_3
    · exact pk_mono (w_f_X8_aboutMany_44 h) (fun _ k => Fr_trans (Fr_refl _ h) (Fr_mono fs_X8_aboutMany_44__X8_aboutMany_24 k))
def S_X8_aboutMany : CL := []
theorem fs_X8_aboutMany_24__X8_aboutMany : ∀ x ∈ S_X8_aboutMany_24, x ∈ S_X8_aboutMany := by decide
theorem fs_X4_countFate__X8_aboutMany : ∀ x ∈ S_X4_countFate, x ∈ S_X8_aboutMany := by decide
theorem w_f_X8_aboutMany (h : HS) (p1 : Int32) : pk (f_X8_aboutMany h p1) (fun a => Fr S_X8_aboutMany h a.2) := by
  unfold f_X8_aboutMany
  refine pk_if (fun _ => ?_) (fun _ => ?_)
  · exact pk_mono (w_f_X8_aboutMany_24 h p1) (fun _ k => Fr_trans (Fr_refl _ h) (Fr_mono fs_X8_aboutMany_24__X8_aboutMany k))
  · refine pk_if (fun _ => ?_) (fun _ => ?_)
    · exact pk_mono (w_f_X8_aboutMany_24 h p1) (fun _ k => Fr_trans (Fr_refl _ h) (Fr_mono fs_X8_aboutMany_24__X8_aboutMany k))
    · refine pk_ob2 (w_f_X4_countFate h (p1 - 20)) (fun r_3 h_3 k_1 => ?_)
      replace k_1 := Fr_trans (Fr_refl _ h) (Fr_mono fs_X4_countFate__X8_aboutMany k_1)
      exact pk_some k_1
def S_X8_about : CL := []
theorem fs_X8_aboutMany__X8_about : ∀ x ∈ S_X8_aboutMany, x ∈ S_X8_about := by decide
theorem w_f_X8_about (h : HS) (p1 : Int32) : pk (f_X8_about h p1) (fun a => Fr S_X8_about h a.2) := by
  unfold f_X8_about
  refine pk_if (fun _ => ?_) (fun _ => ?_)
  · exact pk_some (Fr_refl _ h)
  · refine pk_if (fun _ => ?_) (fun _ => ?_)
    · exact pk_some (Fr_refl _ h)
    · refine pk_if (fun _ => ?_) (fun _ => ?_)
      · exact pk_some (Fr_refl _ h)
      · refine pk_if (fun _ => ?_) (fun _ => ?_)
        · exact pk_some (Fr_refl _ h)
        · refine pk_if (fun _ => ?_) (fun _ => ?_)
          · exact pk_some (Fr_refl _ h)
          · refine pk_if (fun _ => ?_) (fun _ => ?_)
            · exact pk_some (Fr_refl _ h)
            · refine pk_if (fun _ => ?_) (fun _ => ?_)
              · exact pk_some (Fr_refl _ h)
              · refine pk_if (fun _ => ?_) (fun _ => ?_)
                · exact pk_some (Fr_refl _ h)
                · refine pk_if (fun _ => ?_) (fun _ => ?_)
                  · exact pk_some (Fr_refl _ h)
                  · refine pk_if (fun _ => ?_) (fun _ => ?_)
                    · exact pk_some (Fr_refl _ h)
                    · refine pk_ob2 (w_f_X8_aboutMany h p1) (fun r_11 h_11 k_1 => ?_)
                      replace k_1 := Fr_trans (Fr_refl _ h) (Fr_mono fs_X8_aboutMany__X8_about k_1)
                      exact pk_some k_1
