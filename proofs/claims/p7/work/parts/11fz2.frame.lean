def S_X3_choiceOf : CL := []
theorem fs_X3_choiceOf_2__X3_choiceOf : ∀ x ∈ S_X3_choiceOf_2, x ∈ S_X3_choiceOf := by decide
theorem w_f_X3_choiceOf (h : HS) (p1 : Int32) : pk (f_X3_choiceOf h p1) (fun a => Fr S_X3_choiceOf h a.2) := by
  unfold f_X3_choiceOf
  exact pk_mono (w_f_X3_choiceOf_2 8589934592 h p1 0) (fun _ k => Fr_trans (Fr_refl _ h) (Fr_mono fs_X3_choiceOf_2__X3_choiceOf k))
def S_X3_missOf_f_158 : CL := []
theorem w_f_X3_missOf_f_158 (h : HS) (x2 : Int64) (x4 : Int64) (x6 : Int64) (x8 : Int64) (x10 : Int64) : pk (f_X3_missOf_f_158 h x2 x4 x6 x8 x10) (fun a => Fr S_X3_missOf_f_158 h a.2) := by
  unfold f_X3_missOf_f_158
  exact pk_some (Fr_refl _ h)
def S_X3_missOf_f_17 : CL := []
theorem w_f_X3_missOf_f_152 (k17 : HS → Int64 → Int64 → Int64 → Int64 → Int64 → Int32 → Option (Int64 × HS)) (hk_k17 : ∀ (h : HS) (x0 : Int64) (x1 : Int64) (x2 : Int64) (x3 : Int64) (x4 : Int64) (x5 : Int32), pk (k17 h x0 x1 x2 x3 x4 x5) (fun a => Fr S_X3_missOf_f_17 h a.2)) (h : HS) (x2 : Int64) (x4 : Int64) (x6 : Int64) (x8 : Int64) (x10 : Int64) (x12 : Int32) : pk (f_X3_missOf_f_152 k17 h x2 x4 x6 x8 x10 x12) (fun a => Fr S_X3_missOf_f_17 h a.2) := by
  unfold f_X3_missOf_f_152
  exact pk_mono (hk_k17 h x2 x4 x6 x8 x10 (x12 + 1)) (fun _ k => Fr_trans (Fr_refl _ h) k)
theorem w_f_X3_missOf_f_85 (k17 : HS → Int64 → Int64 → Int64 → Int64 → Int64 → Int32 → Option (Int64 × HS)) (hk_k17 : ∀ (h : HS) (x0 : Int64) (x1 : Int64) (x2 : Int64) (x3 : Int64) (x4 : Int64) (x5 : Int32), pk (k17 h x0 x1 x2 x3 x4 x5) (fun a => Fr S_X3_missOf_f_17 h a.2)) (h : HS) (x2 : Int64) (x4 : Int64) (x6 : Int64) (x8 : Int64) (x10 : Int64) (x12 : Int32) (y0 : Int32) : pk (f_X3_missOf_f_85 k17 h x2 x4 x6 x8 x10 x12 y0) (fun a => Fr S_X3_missOf_f_17 h a.2) := by
  unfold f_X3_missOf_f_85
  refine pk_chk (fun _ => ?_)
  refine pk_if (fun _ => ?_) (fun _ => ?_)
  · exact pk_mono (w_f_X3_missOf_f_152 k17 hk_k17 h (x2 * ((y0).toInt64)) x4 x6 x8 x10 x12) (fun _ k => Fr_trans (Fr_refl _ h) k)
  · refine pk_chk (fun _ => ?_)
    refine pk_if (fun _ => ?_) (fun _ => ?_)
    · exact pk_mono (w_f_X3_missOf_f_152 k17 hk_k17 h x2 (x4 * ((y0).toInt64)) (x6 * 100) x8 x10 x12) (fun _ k => Fr_trans (Fr_refl _ h) k)
    · exact pk_mono (w_f_X3_missOf_f_152 k17 hk_k17 h x2 x4 x6 (x8 * ((y0).toInt64)) (x10 * 100) x12) (fun _ k => Fr_trans (Fr_refl _ h) k)
theorem w_f_X3_missOf_f_83 (k17 : HS → Int64 → Int64 → Int64 → Int64 → Int64 → Int32 → Option (Int64 × HS)) (hk_k17 : ∀ (h : HS) (x0 : Int64) (x1 : Int64) (x2 : Int64) (x3 : Int64) (x4 : Int64) (x5 : Int32), pk (k17 h x0 x1 x2 x3 x4 x5) (fun a => Fr S_X3_missOf_f_17 h a.2)) (h : HS) (x2 : Int64) (x4 : Int64) (x6 : Int64) (x8 : Int64) (x10 : Int64) (x12 : Int32) : pk (f_X3_missOf_f_83 k17 h x2 x4 x6 x8 x10 x12) (fun a => Fr S_X3_missOf_f_17 h a.2) := by
  unfold f_X3_missOf_f_83
  exact pk_mono (w_f_X3_missOf_f_85 k17 hk_k17 h x2 x4 x6 x8 x10 x12 100) (fun _ k => Fr_trans (Fr_refl _ h) k)
theorem fs_X3_missOf_f_158__X3_missOf_f_17 : ∀ x ∈ S_X3_missOf_f_158, x ∈ S_X3_missOf_f_17 := by decide
theorem w_f_X3_missOf_f_17  : ∀ (n : Nat) (h : HS) (x2 : Int64) (x4 : Int64) (x6 : Int64) (x8 : Int64) (x10 : Int64) (x12 : Int32), pk (f_X3_missOf_f_17  n h x2 x4 x6 x8 x10 x12) (fun a => Fr S_X3_missOf_f_17 h a.2) := by
  intro n
  induction n with
  | zero => intro h x2 x4 x6 x8 x10 x12; exact pk_none
  | succ n ih =>
    intro h x2 x4 x6 x8 x10 x12
    rw [f_X3_missOf_f_17_s]
    refine pk_if (fun _ => ?_) (fun _ => ?_)
    · exact pk_mono (w_f_X3_missOf_f_158 h x2 x4 x6 x8 x10) (fun _ k => Fr_trans (Fr_refl _ h) (Fr_mono fs_X3_missOf_f_158__X3_missOf_f_17 k))
    · refine pk_if (fun _ => ?_) (fun _ => ?_)
      · exact pk_mono (w_f_X3_missOf_f_158 h x2 x4 x6 x8 x10) (fun _ k => Fr_trans (Fr_refl _ h) (Fr_mono fs_X3_missOf_f_158__X3_missOf_f_17 k))
      · refine pk_chk (fun _ => ?_)
        refine pk_chk (fun _ => ?_)
        refine pk_chk (fun _ => ?_)
        refine pk_if (fun _ => ?_) (fun _ => ?_)
        · exact pk_mono (w_f_X3_missOf_f_83 (f_X3_missOf_f_17 n) ih h x2 x4 x6 x8 x10 x12) (fun _ k => Fr_trans (Fr_refl _ h) k)
        · refine pk_if (fun _ => ?_) (fun _ => ?_)
          · exact pk_mono (w_f_X3_missOf_f_83 (f_X3_missOf_f_17 n) ih h x2 x4 x6 x8 x10 x12) (fun _ k => Fr_trans (Fr_refl _ h) k)
          · refine pk_chk (fun _ => ?_)
            exact pk_mono (w_f_X3_missOf_f_85 (f_X3_missOf_f_17 n) ih h x2 x4 x6 x8 x10 x12 (100 - ((eA h 8 0) ((((((((eA h 8 3) ((x12).toNatClampNeg)) * 3) + ((eA h 8 4) ((x12).toNatClampNeg))) * 5) + ((eA h 8 5) ((x12).toNatClampNeg)))).toNatClampNeg)))) (fun _ k => Fr_trans (Fr_refl _ h) k)
def S_X3_missOf_f : CL := []
theorem fs_X3_missOf_f_17__X3_missOf_f : ∀ x ∈ S_X3_missOf_f_17, x ∈ S_X3_missOf_f := by decide
theorem w_f_X3_missOf_f (h : HS) : pk (f_X3_missOf_f h) (fun a => Fr S_X3_missOf_f h a.2) := by
  unfold f_X3_missOf_f
  exact pk_mono (w_f_X3_missOf_f_17 8589934592 h 1 1 1 1 1 0) (fun _ k => Fr_trans (Fr_refl _ h) (Fr_mono fs_X3_missOf_f_17__X3_missOf_f k))
def S_X3_missOf_r_158 : CL := []
theorem w_f_X3_missOf_r_158 (h : HS) (x2 : Int64) (x4 : Int64) (x6 : Int64) (x8 : Int64) (x10 : Int64) : pk (f_X3_missOf_r_158 h x2 x4 x6 x8 x10) (fun a => Fr S_X3_missOf_r_158 h a.2) := by
  unfold f_X3_missOf_r_158
  exact pk_some (Fr_refl _ h)
def S_X3_missOf_r_17 : CL := []
theorem w_f_X3_missOf_r_152 (k17 : HS → Int64 → Int64 → Int64 → Int64 → Int64 → Int32 → Option (Int64 × HS)) (hk_k17 : ∀ (h : HS) (x0 : Int64) (x1 : Int64) (x2 : Int64) (x3 : Int64) (x4 : Int64) (x5 : Int32), pk (k17 h x0 x1 x2 x3 x4 x5) (fun a => Fr S_X3_missOf_r_17 h a.2)) (h : HS) (x2 : Int64) (x4 : Int64) (x6 : Int64) (x8 : Int64) (x10 : Int64) (x12 : Int32) : pk (f_X3_missOf_r_152 k17 h x2 x4 x6 x8 x10 x12) (fun a => Fr S_X3_missOf_r_17 h a.2) := by
  unfold f_X3_missOf_r_152
  exact pk_mono (hk_k17 h x2 x4 x6 x8 x10 (x12 + 1)) (fun _ k => Fr_trans (Fr_refl _ h) k)
theorem w_f_X3_missOf_r_85 (k17 : HS → Int64 → Int64 → Int64 → Int64 → Int64 → Int32 → Option (Int64 × HS)) (hk_k17 : ∀ (h : HS) (x0 : Int64) (x1 : Int64) (x2 : Int64) (x3 : Int64) (x4 : Int64) (x5 : Int32), pk (k17 h x0 x1 x2 x3 x4 x5) (fun a => Fr S_X3_missOf_r_17 h a.2)) (h : HS) (x2 : Int64) (x4 : Int64) (x6 : Int64) (x8 : Int64) (x10 : Int64) (x12 : Int32) (y0 : Int32) : pk (f_X3_missOf_r_85 k17 h x2 x4 x6 x8 x10 x12 y0) (fun a => Fr S_X3_missOf_r_17 h a.2) := by
  unfold f_X3_missOf_r_85
  refine pk_chk (fun _ => ?_)
  refine pk_if (fun _ => ?_) (fun _ => ?_)
  · exact pk_mono (w_f_X3_missOf_r_152 k17 hk_k17 h (x2 * ((y0).toInt64)) x4 x6 x8 x10 x12) (fun _ k => Fr_trans (Fr_refl _ h) k)
  · refine pk_chk (fun _ => ?_)
    refine pk_if (fun _ => ?_) (fun _ => ?_)
    · exact pk_mono (w_f_X3_missOf_r_152 k17 hk_k17 h x2 (x4 * ((y0).toInt64)) (x6 * 100) x8 x10 x12) (fun _ k => Fr_trans (Fr_refl _ h) k)
    · exact pk_mono (w_f_X3_missOf_r_152 k17 hk_k17 h x2 x4 x6 (x8 * ((y0).toInt64)) (x10 * 100) x12) (fun _ k => Fr_trans (Fr_refl _ h) k)
theorem w_f_X3_missOf_r_83 (k17 : HS → Int64 → Int64 → Int64 → Int64 → Int64 → Int32 → Option (Int64 × HS)) (hk_k17 : ∀ (h : HS) (x0 : Int64) (x1 : Int64) (x2 : Int64) (x3 : Int64) (x4 : Int64) (x5 : Int32), pk (k17 h x0 x1 x2 x3 x4 x5) (fun a => Fr S_X3_missOf_r_17 h a.2)) (h : HS) (x2 : Int64) (x4 : Int64) (x6 : Int64) (x8 : Int64) (x10 : Int64) (x12 : Int32) : pk (f_X3_missOf_r_83 k17 h x2 x4 x6 x8 x10 x12) (fun a => Fr S_X3_missOf_r_17 h a.2) := by
  unfold f_X3_missOf_r_83
  exact pk_mono (w_f_X3_missOf_r_85 k17 hk_k17 h x2 x4 x6 x8 x10 x12 100) (fun _ k => Fr_trans (Fr_refl _ h) k)
theorem fs_X3_missOf_r_158__X3_missOf_r_17 : ∀ x ∈ S_X3_missOf_r_158, x ∈ S_X3_missOf_r_17 := by decide
theorem w_f_X3_missOf_r_17  : ∀ (n : Nat) (h : HS) (x2 : Int64) (x4 : Int64) (x6 : Int64) (x8 : Int64) (x10 : Int64) (x12 : Int32), pk (f_X3_missOf_r_17  n h x2 x4 x6 x8 x10 x12) (fun a => Fr S_X3_missOf_r_17 h a.2) := by
  intro n
  induction n with
  | zero => intro h x2 x4 x6 x8 x10 x12; exact pk_none
  | succ n ih =>
    intro h x2 x4 x6 x8 x10 x12
    rw [f_X3_missOf_r_17_s]
    refine pk_if (fun _ => ?_) (fun _ => ?_)
    · exact pk_mono (w_f_X3_missOf_r_158 h x2 x4 x6 x8 x10) (fun _ k => Fr_trans (Fr_refl _ h) (Fr_mono fs_X3_missOf_r_158__X3_missOf_r_17 k))
    · refine pk_if (fun _ => ?_) (fun _ => ?_)
      · exact pk_mono (w_f_X3_missOf_r_158 h x2 x4 x6 x8 x10) (fun _ k => Fr_trans (Fr_refl _ h) (Fr_mono fs_X3_missOf_r_158__X3_missOf_r_17 k))
      · refine pk_chk (fun _ => ?_)
        refine pk_chk (fun _ => ?_)
        refine pk_chk (fun _ => ?_)
        refine pk_if (fun _ => ?_) (fun _ => ?_)
        · exact pk_mono (w_f_X3_missOf_r_83 (f_X3_missOf_r_17 n) ih h x2 x4 x6 x8 x10 x12) (fun _ k => Fr_trans (Fr_refl _ h) k)
        · refine pk_if (fun _ => ?_) (fun _ => ?_)
          · exact pk_mono (w_f_X3_missOf_r_83 (f_X3_missOf_r_17 n) ih h x2 x4 x6 x8 x10 x12) (fun _ k => Fr_trans (Fr_refl _ h) k)
          · refine pk_chk (fun _ => ?_)
            exact pk_mono (w_f_X3_missOf_r_85 (f_X3_missOf_r_17 n) ih h x2 x4 x6 x8 x10 x12 (100 - ((eA h 8 1) ((((((((eA h 8 3) ((x12).toNatClampNeg)) * 3) + ((eA h 8 4) ((x12).toNatClampNeg))) * 5) + ((eA h 8 5) ((x12).toNatClampNeg)))).toNatClampNeg)))) (fun _ k => Fr_trans (Fr_refl _ h) k)
def S_X3_missOf_r : CL := []
theorem fs_X3_missOf_r_17__X3_missOf_r : ∀ x ∈ S_X3_missOf_r_17, x ∈ S_X3_missOf_r := by decide
theorem w_f_X3_missOf_r (h : HS) : pk (f_X3_missOf_r h) (fun a => Fr S_X3_missOf_r h a.2) := by
  unfold f_X3_missOf_r
  exact pk_mono (w_f_X3_missOf_r_17 8589934592 h 1 1 1 1 1 0) (fun _ k => Fr_trans (Fr_refl _ h) (Fr_mono fs_X3_missOf_r_17__X3_missOf_r k))
def S_X3_compare_113 : CL := []
theorem w_f_X3_compare_113 (h : HS) : pk (f_X3_compare_113 h) (fun a => Fr S_X3_compare_113 h a) := by
  unfold f_X3_compare_113
  exact pk_some (Fr_refl _ h)
def S_X3_compare_107 : CL := [(0, 8, 12), (0, 8, 13), (0, 8, 15), (1, 8, 6), (1, 8, 7), (2, 8, 14)]
theorem fs_X3_keep__X3_compare_107 : ∀ x ∈ S_X3_keep, x ∈ S_X3_compare_107 := by decide
theorem fs_X3_compare_113__X3_compare_107 : ∀ x ∈ S_X3_compare_113, x ∈ S_X3_compare_107 := by decide
theorem w_f_X3_compare_107 (h : HS) (x1 : Int64) (x3 : Int32) : pk (f_X3_compare_107 h x1 x3) (fun a => Fr S_X3_compare_107 h a) := by
  unfold f_X3_compare_107
  refine pk_ob1 (w_f_X3_keep h x1 x3) (fun h_14 k_1 => ?_)
  replace k_1 := Fr_trans (Fr_refl _ h) (Fr_mono fs_X3_keep__X3_compare_107 k_1)
  exact pk_mono (w_f_X3_compare_113 h_14) (fun _ k => Fr_trans k_1 (Fr_mono fs_X3_compare_113__X3_compare_107 k))
def S_X3_compare_75 : CL := [(0, 8, 12), (0, 8, 13), (0, 8, 15), (1, 8, 6), (1, 8, 7), (2, 8, 14)]
theorem fs_X3_isBetter__X3_compare_75 : ∀ x ∈ S_X3_isBetter, x ∈ S_X3_compare_75 := by decide
theorem fs_X3_compare_113__X3_compare_75 : ∀ x ∈ S_X3_compare_113, x ∈ S_X3_compare_75 := by decide
theorem fs_X3_compare_107__X3_compare_75 : ∀ x ∈ S_X3_compare_107, x ∈ S_X3_compare_75 := by decide
theorem w_f_X3_compare_75 (h : HS) (x1 : Int64) (x3 : Int32) : pk (f_X3_compare_75 h x1 x3) (fun a => Fr S_X3_compare_75 h a) := by
  unfold f_X3_compare_75
  refine pk_ob2 (w_f_X3_isBetter h x1) (fun r_9 h_9 k_1 => ?_)
  replace k_1 := Fr_trans (Fr_refl _ h) (Fr_mono fs_X3_isBetter__X3_compare_75 k_1)
  refine pk_if (fun _ => ?_) (fun _ => ?_)
  · refine pk_if (fun _ => ?_) (fun _ => ?_)
    · exact pk_mono (w_f_X3_compare_113 h_9) (fun _ k => Fr_trans k_1 (Fr_mono fs_X3_compare_113__X3_compare_75 k))
    · refine pk_if (fun _ => ?_) (fun _ => ?_)
      · refine pk_if (fun _ => ?_) (fun _ => ?_)
        · exact pk_mono (w_f_X3_compare_113 h_9) (fun _ k => Fr_trans k_1 (Fr_mono fs_X3_compare_113__X3_compare_75 k))
        · exact pk_mono (w_f_X3_compare_107 h_9 x1 x3) (fun _ k => Fr_trans k_1 (Fr_mono fs_X3_compare_107__X3_compare_75 k))
      · exact pk_mono (w_f_X3_compare_113 h_9) (fun _ k => Fr_trans k_1 (Fr_mono fs_X3_compare_113__X3_compare_75 k))
  · exact pk_mono (w_f_X3_compare_107 h_9 x1 x3) (fun _ k => Fr_trans k_1 (Fr_mono fs_X3_compare_107__X3_compare_75 k))
def S_X3_compare_30 : CL := [(0, 8, 12), (0, 8, 13), (0, 8, 15), (1, 8, 6), (1, 8, 7), (2, 8, 14)]
theorem fs_X3_compare_75__X3_compare_30 : ∀ x ∈ S_X3_compare_75, x ∈ S_X3_compare_30 := by decide
theorem w_f_X3_compare_30  : ∀ (n : Nat) (h : HS) (x1 : Int64) (x3 : Int32) (x4 : Int32), pk (f_X3_compare_30  n h x1 x3 x4) (fun a => Fr S_X3_compare_30 h a) := by
  intro n
  induction n with
  | zero => intro h x1 x3 x4; exact pk_none
  | succ n ih =>
    intro h x1 x3 x4
    rw [f_X3_compare_30_s]
    refine pk_if (fun _ => ?_) (fun _ => ?_)
    · exact pk_mono (w_f_X3_compare_75 h x1 x3) (fun _ k => Fr_trans (Fr_refl _ h) (Fr_mono fs_X3_compare_75__X3_compare_30 k))
    · refine pk_if (fun _ => ?_) (fun _ => ?_)
      · exact pk_mono (w_f_X3_compare_75 h x1 x3) (fun _ k => Fr_trans (Fr_refl _ h) (Fr_mono fs_X3_compare_75__X3_compare_30 k))
      · refine pk_chk (fun _ => ?_)
        refine pk_chk (fun _ => ?_)
        exact pk_mono (ih h x1 (((x3 * 100) + (((eA h 8 5) ((x4).toNatClampNeg)) * 10)) + ((eA h 8 4) ((x4).toNatClampNeg))) (x4 + 1)) (fun _ k => Fr_trans (Fr_refl _ h) k)
def S_X3_compare : CL := [(0, 8, 12), (0, 8, 13), (0, 8, 15), (1, 8, 6), (1, 8, 7), (2, 8, 14)]
theorem fs_X3_missOf_f__X3_compare : ∀ x ∈ S_X3_missOf_f, x ∈ S_X3_compare := by decide
theorem fs_X3_isEnough__X3_compare : ∀ x ∈ S_X3_isEnough, x ∈ S_X3_compare := by decide
theorem fs_X3_missOf_r__X3_compare : ∀ x ∈ S_X3_missOf_r, x ∈ S_X3_compare := by decide
theorem fs_X3_compare_30__X3_compare : ∀ x ∈ S_X3_compare_30, x ∈ S_X3_compare := by decide
theorem w_f_X3_compare (h : HS) : pk (f_X3_compare h) (fun a => Fr S_X3_compare h a) := by
  unfold f_X3_compare
  refine pk_ob2 (w_f_X3_missOf_f h) (fun r_1 h_1 k_1 => ?_)
  replace k_1 := Fr_trans (Fr_refl _ h) (Fr_mono fs_X3_missOf_f__X3_compare k_1)
  refine pk_ob2 (w_f_X3_isEnough h_1 r_1) (fun r_2 h_2 k_2 => ?_)
  replace k_2 := Fr_trans k_1 (Fr_mono fs_X3_isEnough__X3_compare k_2)
  refine pk_if (fun _ => ?_) (fun _ => ?_)
  · exact pk_some k_2
  · refine pk_ob2 (w_f_X3_missOf_r h_2) (fun r_4 h_4 k_3 => ?_)
    replace k_3 := Fr_trans k_2 (Fr_mono fs_X3_missOf_r__X3_compare k_3)
    exact pk_mono (w_f_X3_compare_30 8589934592 h_4 r_4 0 0) (fun _ k => Fr_trans k_3 (Fr_mono fs_X3_compare_30__X3_compare k))
def S_X7_wordKind_12 : CL := []
theorem w_f_X7_wordKind_106 (k12 : HS → Int32 → Int32 → Int32 → Int32 → Int32 → Int32 → Option (Int32 × HS)) (hk_k12 : ∀ (h : HS) (x0 : Int32) (x1 : Int32) (x2 : Int32) (x3 : Int32) (x4 : Int32) (x5 : Int32), pk (k12 h x0 x1 x2 x3 x4 x5) (fun a => Fr S_X7_wordKind_12 h a.2)) (h : HS) (x1 : Int32) (x2 : Int32) (x3 : Int32) (x4 : Int32) (x5 : Int32) (x6 : Int32) : pk (f_X7_wordKind_106 k12 h x1 x2 x3 x4 x5 x6) (fun a => Fr S_X7_wordKind_12 h a.2) := by
  unfold f_X7_wordKind_106
  exact pk_mono (hk_k12 h x1 x2 x3 x4 x5 (x6 + 1)) (fun _ k => Fr_trans (Fr_refl _ h) k)
theorem w_f_X7_wordKind_94 (k12 : HS → Int32 → Int32 → Int32 → Int32 → Int32 → Int32 → Option (Int32 × HS)) (hk_k12 : ∀ (h : HS) (x0 : Int32) (x1 : Int32) (x2 : Int32) (x3 : Int32) (x4 : Int32) (x5 : Int32), pk (k12 h x0 x1 x2 x3 x4 x5) (fun a => Fr S_X7_wordKind_12 h a.2)) (h : HS) (x1 : Int32) (x2 : Int32) (x3 : Int32) (x6 : Int32) : pk (f_X7_wordKind_94 k12 h x1 x2 x3 x6) (fun a => Fr S_X7_wordKind_12 h a.2) := by
  unfold f_X7_wordKind_94
  exact pk_mono (w_f_X7_wordKind_106 k12 hk_k12 h x1 x2 (x3 + 1) (x6 + 1) 1 x6) (fun _ k => Fr_trans (Fr_refl _ h) k)
theorem w_f_X7_wordKind_73 (k12 : HS → Int32 → Int32 → Int32 → Int32 → Int32 → Int32 → Option (Int32 × HS)) (hk_k12 : ∀ (h : HS) (x0 : Int32) (x1 : Int32) (x2 : Int32) (x3 : Int32) (x4 : Int32) (x5 : Int32), pk (k12 h x0 x1 x2 x3 x4 x5) (fun a => Fr S_X7_wordKind_12 h a.2)) (h : HS) (x1 : Int32) (x2 : Int32) (x3 : Int32) (x4 : Int32) (x6 : Int32) (y0 : Int32) : pk (f_X7_wordKind_73 k12 h x1 x2 x3 x4 x6 y0) (fun a => Fr S_X7_wordKind_12 h a.2) := by
  unfold f_X7_wordKind_73
  exact pk_mono (w_f_X7_wordKind_106 k12 hk_k12 h x1 x2 x3 x4 y0 x6) (fun _ k => Fr_trans (Fr_refl _ h) k)
theorem w_f_X7_wordKind_72 (k12 : HS → Int32 → Int32 → Int32 → Int32 → Int32 → Int32 → Option (Int32 × HS)) (hk_k12 : ∀ (h : HS) (x0 : Int32) (x1 : Int32) (x2 : Int32) (x3 : Int32) (x4 : Int32) (x5 : Int32), pk (k12 h x0 x1 x2 x3 x4 x5) (fun a => Fr S_X7_wordKind_12 h a.2)) (h : HS) (x1 : Int32) (x2 : Int32) (x3 : Int32) (x4 : Int32) (x6 : Int32) : pk (f_X7_wordKind_72 k12 h x1 x2 x3 x4 x6) (fun a => Fr S_X7_wordKind_12 h a.2) := by
  unfold f_X7_wordKind_72
  exact pk_mono (w_f_X7_wordKind_73 k12 hk_k12 h x1 x2 x3 x4 x6 0) (fun _ k => Fr_trans (Fr_refl _ h) k)
theorem fs_X5_byteAt__X7_wordKind_12 : ∀ x ∈ S_X5_byteAt, x ∈ S_X7_wordKind_12 := by decide
theorem w_f_X7_wordKind_12  : ∀ (n : Nat) (h : HS) (x1 : Int32) (x2 : Int32) (x3 : Int32) (x4 : Int32) (x5 : Int32) (x6 : Int32), pk (f_X7_wordKind_12  n h x1 x2 x3 x4 x5 x6) (fun a => Fr S_X7_wordKind_12 h a.2) := by
  intro n
  induction n with
  | zero => intro h x1 x2 x3 x4 x5 x6; exact pk_none
  | succ n ih =>
    intro h x1 x2 x3 x4 x5 x6
    rw [f_X7_wordKind_12_s]
    refine pk_obf (fun r_1 => ?_)
    refine pk_if (fun _ => ?_) (fun _ => ?_)
    · exact pk_some (Fr_refl _ h)
    · refine pk_obf (fun r_3 => ?_)
      refine pk_if (fun _ => ?_) (fun _ => ?_)
      · refine pk_if (fun _ => ?_) (fun _ => ?_)
        · exact pk_mono (w_f_X7_wordKind_94 (f_X7_wordKind_12 n) ih h x1 x2 x3 x6) (fun _ k => Fr_trans (Fr_refl _ h) k)
        · refine pk_if (fun _ => ?_) (fun _ => ?_)
          · exact pk_some (Fr_refl _ h)
          · exact pk_mono (w_f_X7_wordKind_94 (f_X7_wordKind_12 n) ih h x1 x2 x3 x6) (fun _ k => Fr_trans (Fr_refl _ h) k)
      · refine pk_if (fun _ => ?_) (fun _ => ?_)
        · exact pk_mono (w_f_X7_wordKind_72 (f_X7_wordKind_12 n) ih h x1 x2 x3 x4 x6) (fun _ k => Fr_trans (Fr_refl _ h) k)
        · refine pk_if (fun _ => ?_) (fun _ => ?_)
          · exact pk_mono (w_f_X7_wordKind_72 (f_X7_wordKind_12 n) ih h x1 x2 x3 x4 x6) (fun _ k => Fr_trans (Fr_refl _ h) k)
          · refine pk_ob2 (w_f_X5_byteAt h ((x1 + x6) - x4)) (fun r_9 h_9 k_1 => ?_)
            replace k_1 := Fr_trans (Fr_refl _ h) (Fr_mono fs_X5_byteAt__X7_wordKind_12 k_1)
            refine pk_if (fun _ => ?_) (fun _ => ?_)
            · exact pk_mono (w_f_X7_wordKind_73 (f_X7_wordKind_12 n) ih h_9 x1 x2 x3 x4 x6 1) (fun _ k => Fr_trans k_1 k)
            · exact pk_mono (w_f_X7_wordKind_72 (f_X7_wordKind_12 n) ih h_9 x1 x2 x3 x4 x6) (fun _ k => Fr_trans k_1 k)
def S_X7_wordKind : CL := []
theorem fs_X7_wordKind_12__X7_wordKind : ∀ x ∈ S_X7_wordKind_12, x ∈ S_X7_wordKind := by decide
theorem w_f_X7_wordKind (h : HS) (p1 : Int32) (p2 : Int32) : pk (f_X7_wordKind h p1 p2) (fun a => Fr S_X7_wordKind h a.2) := by
  unfold f_X7_wordKind
  exact pk_mono (w_f_X7_wordKind_12 8589934592 h p1 p2 16 0 1 0) (fun _ k => Fr_trans (Fr_refl _ h) (Fr_mono fs_X7_wordKind_12__X7_wordKind k))
def S_X7_splitWord_27 : CL := [(0, 4, 3), (1, 4, 0), (1, 4, 1), (1, 4, 2)]
theorem fs_X7_wordKind__X7_splitWord_27 : ∀ x ∈ S_X7_wordKind, x ∈ S_X7_splitWord_27 := by decide
theorem fs_X7_add__X7_splitWord_27 : ∀ x ∈ S_X7_add, x ∈ S_X7_splitWord_27 := by decide
theorem w_f_X7_splitWord_27 (h : HS) (x2 : Int32) (x3 : Int32) : pk (f_X7_splitWord_27 h x2 x3) (fun a => Fr S_X7_splitWord_27 h a.2) := by
  unfold f_X7_splitWord_27
  refine pk_ob2 (w_f_X7_wordKind h x2 (x3 - x2)) (fun r_5 h_5 k_1 => ?_)
  replace k_1 := Fr_trans (Fr_refl _ h) (Fr_mono fs_X7_wordKind__X7_splitWord_27 k_1)
  refine pk_ob1 (w_f_X7_add h_5 r_5 x2 0) (fun h_6 k_2 => ?_)
  replace k_2 := Fr_trans k_1 (Fr_mono fs_X7_add__X7_splitWord_27 k_2)
  exact pk_some k_2
def S_X7_splitWord_2 : CL := [(0, 4, 3), (1, 4, 0), (1, 4, 1), (1, 4, 2)]
theorem fs_X7_splitWord_27__X7_splitWord_2 : ∀ x ∈ S_X7_splitWord_27, x ∈ S_X7_splitWord_2 := by decide
theorem fs_X5_byteAt__X7_splitWord_2 : ∀ x ∈ S_X5_byteAt, x ∈ S_X7_splitWord_2 := by decide
theorem w_f_X7_splitWord_2  : ∀ (n : Nat) (h : HS) (x2 : Int32) (x3 : Int32), pk (f_X7_splitWord_2  n h x2 x3) (fun a => Fr S_X7_splitWord_2 h a.2) := by
  intro n
  induction n with
  | zero => intro h x2 x3; exact pk_none
  | succ n ih =>
    intro h x2 x3
    rw [f_X7_splitWord_2_s]
    refine pk_if (fun _ => ?_) (fun _ => ?_)
    · exact pk_mono (w_f_X7_splitWord_27 h x2 x3) (fun _ k => Fr_trans (Fr_refl _ h) (Fr_mono fs_X7_splitWord_27__X7_splitWord_2 k))
    · refine pk_ob2 (w_f_X5_byteAt h x3) (fun r_2 h_2 k_1 => ?_)
      replace k_1 := Fr_trans (Fr_refl _ h) (Fr_mono fs_X5_byteAt__X7_splitWord_2 k_1)
      refine pk_obf (fun r_3 => ?_)
      refine pk_if (fun _ => ?_) (fun _ => ?_)
      · exact pk_mono (w_f_X7_splitWord_27 h_2 x2 x3) (fun _ k => Fr_trans k_1 (Fr_mono fs_X7_splitWord_27__X7_splitWord_2 k))
      · exact pk_mono (ih h_2 x2 (x3 + 1)) (fun _ k => Fr_trans k_1 k)
def S_X7_splitWord : CL := [(0, 4, 3), (1, 4, 0), (1, 4, 1), (1, 4, 2)]
theorem fs_X7_splitWord_2__X7_splitWord : ∀ x ∈ S_X7_splitWord_2, x ∈ S_X7_splitWord := by decide
theorem w_f_X7_splitWord (h : HS) (p1 : Int32) : pk (f_X7_splitWord h p1) (fun a => Fr S_X7_splitWord h a.2) := by
  unfold f_X7_splitWord
  exact pk_mono (w_f_X7_splitWord_2 8589934592 h p1 p1) (fun _ k => Fr_trans (Fr_refl _ h) (Fr_mono fs_X7_splitWord_2__X7_splitWord k))
def S_X7_split_99 : CL := [(0, 4, 3), (1, 4, 0), (1, 4, 1), (1, 4, 2)]
theorem fs_X7_add__X7_split_99 : ∀ x ∈ S_X7_add, x ∈ S_X7_split_99 := by decide
theorem w_f_X7_split_99 (h : HS) : pk (f_X7_split_99 h) (fun a => Fr S_X7_split_99 h a) := by
  unfold f_X7_split_99
  refine pk_ob1 (w_f_X7_add h 0 (eI h 3 1) 0) (fun h_13 k_1 => ?_)
  replace k_1 := Fr_trans (Fr_refl _ h) (Fr_mono fs_X7_add__X7_split_99 k_1)
  exact pk_some k_1
def S_X7_split_14 : CL := [(0, 4, 3), (1, 4, 0), (1, 4, 1), (1, 4, 2)]
theorem w_f_X7_split_93 (k14 : HS → Int32 → Int32 → Option HS) (hk_k14 : ∀ (h : HS) (x0 : Int32) (x1 : Int32), pk (k14 h x0 x1) (fun a => Fr S_X7_split_14 h a)) (h : HS) (x2 : Int32) (x3 : Int32) : pk (f_X7_split_93 k14 h x2 x3) (fun a => Fr S_X7_split_14 h a) := by
  unfold f_X7_split_93
  exact pk_mono (hk_k14 h x2 (x3 + 1)) (fun _ k => Fr_trans (Fr_refl _ h) k)
theorem fs_X7_split_99__X7_split_14 : ∀ x ∈ S_X7_split_99, x ∈ S_X7_split_14 := by decide
theorem fs_X5_byteAt__X7_split_14 : ∀ x ∈ S_X5_byteAt, x ∈ S_X7_split_14 := by decide
theorem fs_X7_splitSign__X7_split_14 : ∀ x ∈ S_X7_splitSign, x ∈ S_X7_split_14 := by decide
theorem fs_X7_splitNumber__X7_split_14 : ∀ x ∈ S_X7_splitNumber, x ∈ S_X7_split_14 := by decide
theorem fs_X7_splitWord__X7_split_14 : ∀ x ∈ S_X7_splitWord, x ∈ S_X7_split_14 := by decide
theorem w_f_X7_split_14  : ∀ (n : Nat) (h : HS) (x2 : Int32) (x3 : Int32), pk (f_X7_split_14  n h x2 x3) (fun a => Fr S_X7_split_14 h a) := by
  intro n
  induction n with
  | zero => intro h x2 x3; exact pk_none
  | succ n ih =>
    intro h x2 x3
    rw [f_X7_split_14_s]
    refine pk_if (fun _ => ?_) (fun _ => ?_)
    · exact pk_mono (w_f_X7_split_99 h) (fun _ k => Fr_trans (Fr_refl _ h) (Fr_mono fs_X7_split_99__X7_split_14 k))
    · refine pk_if (fun _ => ?_) (fun _ => ?_)
      · exact pk_mono (w_f_X7_split_99 h) (fun _ k => Fr_trans (Fr_refl _ h) (Fr_mono fs_X7_split_99__X7_split_14 k))
      · refine pk_ob2 (w_f_X5_byteAt h x2) (fun r_3 h_3 k_1 => ?_)
        replace k_1 := Fr_trans (Fr_refl _ h) (Fr_mono fs_X5_byteAt__X7_split_14 k_1)
        refine pk_obf (fun r_4 => ?_)
        refine pk_if (fun _ => ?_) (fun _ => ?_)
        · refine pk_obf (fun r_6 => ?_)
          refine pk_if (fun _ => ?_) (fun _ => ?_)
          · refine pk_obf (fun r_8 => ?_)
            refine pk_if (fun _ => ?_) (fun _ => ?_)
            · refine pk_ob2 (w_f_X7_splitSign h_3 x2) (fun r_10 h_10 k_2 => ?_)
              replace k_2 := Fr_trans k_1 (Fr_mono fs_X7_splitSign__X7_split_14 k_2)
              exact pk_mono (w_f_X7_split_93 (f_X7_split_14 n) ih h_10 r_10 x3) (fun _ k => Fr_trans k_2 k)
            · refine pk_ob2 (w_f_X7_splitNumber h_3 x2) (fun r_11 h_11 k_3 => ?_)
              replace k_3 := Fr_trans k_1 (Fr_mono fs_X7_splitNumber__X7_split_14 k_3)
              exact pk_mono (w_f_X7_split_93 (f_X7_split_14 n) ih h_11 r_11 x3) (fun _ k => Fr_trans k_3 k)
          · refine pk_ob2 (w_f_X7_splitWord h_3 x2) (fun r_12 h_12 k_4 => ?_)
            replace k_4 := Fr_trans k_1 (Fr_mono fs_X7_splitWord__X7_split_14 k_4)
            exact pk_mono (w_f_X7_split_93 (f_X7_split_14 n) ih h_12 r_12 x3) (fun _ k => Fr_trans k_4 k)
        · exact pk_mono (w_f_X7_split_93 (f_X7_split_14 n) ih h_3 (x2 + 1) x3) (fun _ k => Fr_trans k_1 k)
def S_X7_split : CL := [(0, 4, 3), (0, 4, 4), (1, 4, 0), (1, 4, 1), (1, 4, 2)]
theorem fm_X7_split_0_4_3 : (0, 4, 3) ∈ S_X7_split := by decide
theorem fm_X7_split_0_4_4 : (0, 4, 4) ∈ S_X7_split := by decide
theorem fs_X7_split_14__X7_split : ∀ x ∈ S_X7_split_14, x ∈ S_X7_split := by decide
theorem w_f_X7_split (h : HS) : pk (f_X7_split h) (fun a => Fr S_X7_split h a) := by
  unfold f_X7_split
  exact pk_mono (w_f_X7_split_14 8589934592 (sI (sI h 4 4 0) 4 3 0) 0 0) (fun _ k => Fr_trans (Fr_sI fm_X7_split_0_4_3 (Fr_sI fm_X7_split_0_4_4 (Fr_refl _ h))) (Fr_mono fs_X7_split_14__X7_split k))
def S_X1_rule_82 : CL := [(0, 6, 3)]
theorem fs_X1_pop__X1_rule_82 : ∀ x ∈ S_X1_pop, x ∈ S_X1_rule_82 := by decide
theorem w_f_X1_rule_82 (h : HS) (y0 : Int32) (y1 : Int32) : pk (f_X1_rule_82 h y0 y1) (fun a => Fr S_X1_rule_82 h a.2) := by
  unfold f_X1_rule_82
  refine pk_ob2 (w_f_X1_pop h) (fun r_43 h_43 k_1 => ?_)
  replace k_1 := Fr_trans (Fr_refl _ h) (Fr_mono fs_X1_pop__X1_rule_82 k_1)
  exact pk_some k_1
def S_X1_rule_46 : CL := [(0, 6, 3), (1, 6, 2)]
theorem fs_X1_rule_82__X1_rule_46 : ∀ x ∈ S_X1_rule_82, x ∈ S_X1_rule_46 := by decide
theorem fs_X6_stepAt_0__X1_rule_46 : ∀ x ∈ S_X6_stepAt_0, x ∈ S_X1_rule_46 := by decide
theorem fs_X1_take__X1_rule_46 : ∀ x ∈ S_X1_take, x ∈ S_X1_rule_46 := by decide
theorem w_f_X1_rule_46  : ∀ (n : Nat) (h : HS) (x2 : Int32) (x4 : Int32) (x5 : Int32), pk (f_X1_rule_46  n h x2 x4 x5) (fun a => Fr S_X1_rule_46 h a.2) := by
  intro n
  induction n with
  | zero => intro h x2 x4 x5; exact pk_none
  | succ n ih =>
    intro h x2 x4 x5
    rw [f_X1_rule_46_s]
    refine pk_if (fun _ => ?_) (fun _ => ?_)
    · refine pk_if (fun _ => ?_) (fun _ => ?_)
      · exact pk_mono (w_f_X1_rule_82 h 99 0) (fun _ k => Fr_trans (Fr_refl _ h) (Fr_mono fs_X1_rule_82__X1_rule_46 k))
      · exact pk_mono (w_f_X1_rule_82 h 10 0) (fun _ k => Fr_trans (Fr_refl _ h) (Fr_mono fs_X1_rule_82__X1_rule_46 k))
    · refine pk_ob2 (w_f_X6_stepAt_0 h x5) (fun r_28 h_28 k_1 => ?_)
      replace k_1 := Fr_trans (Fr_refl _ h) (Fr_mono fs_X6_stepAt_0__X1_rule_46 k_1)
      refine pk_ob1 (w_f_X1_take h_28 r_28) (fun h_29 k_2 => ?_)
      replace k_2 := Fr_trans k_1 (Fr_mono fs_X1_take__X1_rule_46 k_2)
      exact pk_mono (ih h_29 x2 x4 (x5 + 1)) (fun _ k => Fr_trans k_2 k)
def S_X1_rule_21 : CL := []
theorem fs_X1_without__X1_rule_21 : ∀ x ∈ S_X1_without, x ∈ S_X1_rule_21 := by decide
theorem w_f_X1_rule_21 (h : HS) (x2 : Int32) : pk (f_X1_rule_21 h x2) (fun a => Fr S_X1_rule_21 h a.2) := by
  unfold f_X1_rule_21
  refine pk_ob2 (w_f_X1_without h x2) (fun r_30 h_30 k_1 => ?_)
  replace k_1 := Fr_trans (Fr_refl _ h) (Fr_mono fs_X1_without__X1_rule_21 k_1)
  exact pk_some k_1
def S_X1_rule_46b : CL := [(0, 6, 3), (1, 6, 2)]
theorem fs_X1_rule_82__X1_rule_46b : ∀ x ∈ S_X1_rule_82, x ∈ S_X1_rule_46b := by decide
theorem fs_X6_stepAt_1__X1_rule_46b : ∀ x ∈ S_X6_stepAt_1, x ∈ S_X1_rule_46b := by decide
theorem fs_X1_take__X1_rule_46b : ∀ x ∈ S_X1_take, x ∈ S_X1_rule_46b := by decide
theorem w_f_X1_rule_46b  : ∀ (n : Nat) (h : HS) (x2 : Int32) (x4 : Int32) (x5 : Int32), pk (f_X1_rule_46b  n h x2 x4 x5) (fun a => Fr S_X1_rule_46b h a.2) := by
  intro n
  induction n with
  | zero => intro h x2 x4 x5; exact pk_none
  | succ n ih =>
    intro h x2 x4 x5
    rw [f_X1_rule_46b_s]
    refine pk_if (fun _ => ?_) (fun _ => ?_)
    · refine pk_if (fun _ => ?_) (fun _ => ?_)
      · exact pk_mono (w_f_X1_rule_82 h 99 0) (fun _ k => Fr_trans (Fr_refl _ h) (Fr_mono fs_X1_rule_82__X1_rule_46b k))
      · exact pk_mono (w_f_X1_rule_82 h 10 0) (fun _ k => Fr_trans (Fr_refl _ h) (Fr_mono fs_X1_rule_82__X1_rule_46b k))
    · refine pk_ob2 (w_f_X6_stepAt_1 h x5) (fun r_33 h_33 k_1 => ?_)
      replace k_1 := Fr_trans (Fr_refl _ h) (Fr_mono fs_X6_stepAt_1__X1_rule_46b k_1)
      refine pk_ob1 (w_f_X1_take h_33 r_33) (fun h_34 k_2 => ?_)
      replace k_2 := Fr_trans k_1 (Fr_mono fs_X1_take__X1_rule_46b k_2)
      exact pk_mono (ih h_34 x2 x4 (x5 + 1)) (fun _ k => Fr_trans k_2 k)
def S_X1_rule_46c : CL := [(0, 6, 3), (1, 6, 2)]
theorem fs_X1_rule_82__X1_rule_46c : ∀ x ∈ S_X1_rule_82, x ∈ S_X1_rule_46c := by decide
theorem fs_X6_stepAt_2__X1_rule_46c : ∀ x ∈ S_X6_stepAt_2, x ∈ S_X1_rule_46c := by decide
theorem fs_X1_take__X1_rule_46c : ∀ x ∈ S_X1_take, x ∈ S_X1_rule_46c := by decide
theorem w_f_X1_rule_46c  : ∀ (n : Nat) (h : HS) (x2 : Int32) (x4 : Int32) (x5 : Int32), pk (f_X1_rule_46c  n h x2 x4 x5) (fun a => Fr S_X1_rule_46c h a.2) := by
  intro n
  induction n with
  | zero => intro h x2 x4 x5; exact pk_none
  | succ n ih =>
    intro h x2 x4 x5
    rw [f_X1_rule_46c_s]
    refine pk_if (fun _ => ?_) (fun _ => ?_)
    · refine pk_if (fun _ => ?_) (fun _ => ?_)
      · exact pk_mono (w_f_X1_rule_82 h 99 0) (fun _ k => Fr_trans (Fr_refl _ h) (Fr_mono fs_X1_rule_82__X1_rule_46c k))
      · exact pk_mono (w_f_X1_rule_82 h 10 0) (fun _ k => Fr_trans (Fr_refl _ h) (Fr_mono fs_X1_rule_82__X1_rule_46c k))
    · refine pk_ob2 (w_f_X6_stepAt_2 h x5) (fun r_37 h_37 k_1 => ?_)
      replace k_1 := Fr_trans (Fr_refl _ h) (Fr_mono fs_X6_stepAt_2__X1_rule_46c k_1)
      refine pk_ob1 (w_f_X1_take h_37 r_37) (fun h_38 k_2 => ?_)
      replace k_2 := Fr_trans k_1 (Fr_mono fs_X1_take__X1_rule_46c k_2)
      exact pk_mono (ih h_38 x2 x4 (x5 + 1)) (fun _ k => Fr_trans k_2 k)
def S_X1_rule_46d : CL := [(0, 6, 3), (1, 6, 2)]
theorem fs_X1_rule_82__X1_rule_46d : ∀ x ∈ S_X1_rule_82, x ∈ S_X1_rule_46d := by decide
theorem fs_X6_stepAt_3__X1_rule_46d : ∀ x ∈ S_X6_stepAt_3, x ∈ S_X1_rule_46d := by decide
theorem fs_X1_take__X1_rule_46d : ∀ x ∈ S_X1_take, x ∈ S_X1_rule_46d := by decide
theorem w_f_X1_rule_46d  : ∀ (n : Nat) (h : HS) (x2 : Int32) (x4 : Int32) (x5 : Int32), pk (f_X1_rule_46d  n h x2 x4 x5) (fun a => Fr S_X1_rule_46d h a.2) := by
  intro n
  induction n with
  | zero => intro h x2 x4 x5; exact pk_none
  | succ n ih =>
    intro h x2 x4 x5
    rw [f_X1_rule_46d_s]
    refine pk_if (fun _ => ?_) (fun _ => ?_)
    · refine pk_if (fun _ => ?_) (fun _ => ?_)
      · exact pk_mono (w_f_X1_rule_82 h 99 0) (fun _ k => Fr_trans (Fr_refl _ h) (Fr_mono fs_X1_rule_82__X1_rule_46d k))
      · exact pk_mono (w_f_X1_rule_82 h 10 0) (fun _ k => Fr_trans (Fr_refl _ h) (Fr_mono fs_X1_rule_82__X1_rule_46d k))
    · refine pk_ob2 (w_f_X6_stepAt_3 h x5) (fun r_41 h_41 k_1 => ?_)
      replace k_1 := Fr_trans (Fr_refl _ h) (Fr_mono fs_X6_stepAt_3__X1_rule_46d k_1)
      refine pk_ob1 (w_f_X1_take h_41 r_41) (fun h_42 k_2 => ?_)
      replace k_2 := Fr_trans k_1 (Fr_mono fs_X1_take__X1_rule_46d k_2)
      exact pk_mono (ih h_42 x2 x4 (x5 + 1)) (fun _ k => Fr_trans k_2 k)
def S_X1_rule : CL := [(0, 6, 3), (1, 6, 2)]
theorem fm_X1_rule_0_6_3 : (0, 6, 3) ∈ S_X1_rule := by decide
theorem fs_X6_hasLaw_0__X1_rule : ∀ x ∈ S_X6_hasLaw_0, x ∈ S_X1_rule := by decide
theorem fs_X1_rule_21__X1_rule : ∀ x ∈ S_X1_rule_21, x ∈ S_X1_rule := by decide
theorem fs_X6_stepsEnd_0__X1_rule : ∀ x ∈ S_X6_stepsEnd_0, x ∈ S_X1_rule := by decide
theorem fs_X6_firstStep_0__X1_rule : ∀ x ∈ S_X6_firstStep_0, x ∈ S_X1_rule := by decide
theorem fs_X1_rule_46__X1_rule : ∀ x ∈ S_X1_rule_46, x ∈ S_X1_rule := by decide
theorem fs_X6_hasLaw_1__X1_rule : ∀ x ∈ S_X6_hasLaw_1, x ∈ S_X1_rule := by decide
theorem fs_X6_stepsEnd_1__X1_rule : ∀ x ∈ S_X6_stepsEnd_1, x ∈ S_X1_rule := by decide
theorem fs_X6_firstStep_1__X1_rule : ∀ x ∈ S_X6_firstStep_1, x ∈ S_X1_rule := by decide
theorem fs_X1_rule_46b__X1_rule : ∀ x ∈ S_X1_rule_46b, x ∈ S_X1_rule := by decide
theorem fs_X6_hasLaw_2__X1_rule : ∀ x ∈ S_X6_hasLaw_2, x ∈ S_X1_rule := by decide
theorem fs_X6_stepsEnd_2__X1_rule : ∀ x ∈ S_X6_stepsEnd_2, x ∈ S_X1_rule := by decide
theorem fs_X6_firstStep_2__X1_rule : ∀ x ∈ S_X6_firstStep_2, x ∈ S_X1_rule := by decide
theorem fs_X1_rule_46c__X1_rule : ∀ x ∈ S_X1_rule_46c, x ∈ S_X1_rule := by decide
theorem fs_X6_hasLaw_3__X1_rule : ∀ x ∈ S_X6_hasLaw_3, x ∈ S_X1_rule := by decide
theorem fs_X6_stepsEnd_3__X1_rule : ∀ x ∈ S_X6_stepsEnd_3, x ∈ S_X1_rule := by decide
theorem fs_X6_firstStep_3__X1_rule : ∀ x ∈ S_X6_firstStep_3, x ∈ S_X1_rule := by decide
theorem fs_X1_rule_46d__X1_rule : ∀ x ∈ S_X1_rule_46d, x ∈ S_X1_rule := by decide
theorem w_f_X1_rule (h : HS) (p1 : Int32) : pk (f_X1_rule h p1) (fun a => Fr S_X1_rule h a.2) := by
  unfold f_X1_rule
  refine pk_if (fun _ => ?_) (fun _ => ?_)
  · refine pk_ob2 (w_f_X6_hasLaw_0 h p1) (fun r_3 h_3 k_1 => ?_)
    replace k_1 := Fr_trans (Fr_refl _ h) (Fr_mono fs_X6_hasLaw_0__X1_rule k_1)
    refine pk_if (fun _ => ?_) (fun _ => ?_)
    · exact pk_mono (w_f_X1_rule_21 h_3 p1) (fun _ k => Fr_trans k_1 (Fr_mono fs_X1_rule_21__X1_rule k))
    · refine pk_ob2 (w_f_X6_stepsEnd_0 (sI h_3 6 3 0) p1) (fun r_5 h_5 k_2 => ?_)
      replace k_2 := Fr_trans (Fr_sI fm_X1_rule_0_6_3 k_1) (Fr_mono fs_X6_stepsEnd_0__X1_rule k_2)
      refine pk_ob2 (w_f_X6_firstStep_0 h_5 p1) (fun r_6 h_6 k_3 => ?_)
      replace k_3 := Fr_trans k_2 (Fr_mono fs_X6_firstStep_0__X1_rule k_3)
      exact pk_mono (w_f_X1_rule_46 8589934592 h_6 p1 r_5 r_6) (fun _ k => Fr_trans k_3 (Fr_mono fs_X1_rule_46__X1_rule k))
  · refine pk_if (fun _ => ?_) (fun _ => ?_)
    · refine pk_ob2 (w_f_X6_hasLaw_1 h p1) (fun r_9 h_9 k_4 => ?_)
      replace k_4 := Fr_trans (Fr_refl _ h) (Fr_mono fs_X6_hasLaw_1__X1_rule k_4)
      refine pk_if (fun _ => ?_) (fun _ => ?_)
      · exact pk_mono (w_f_X1_rule_21 h_9 p1) (fun _ k => Fr_trans k_4 (Fr_mono fs_X1_rule_21__X1_rule k))
      · refine pk_ob2 (w_f_X6_stepsEnd_1 (sI h_9 6 3 0) p1) (fun r_11 h_11 k_5 => ?_)
        replace k_5 := Fr_trans (Fr_sI fm_X1_rule_0_6_3 k_4) (Fr_mono fs_X6_stepsEnd_1__X1_rule k_5)
        refine pk_ob2 (w_f_X6_firstStep_1 h_11 p1) (fun r_12 h_12 k_6 => ?_)
        replace k_6 := Fr_trans k_5 (Fr_mono fs_X6_firstStep_1__X1_rule k_6)
        exact pk_mono (w_f_X1_rule_46b 8589934592 h_12 p1 r_11 r_12) (fun _ k => Fr_trans k_6 (Fr_mono fs_X1_rule_46b__X1_rule k))
    · refine pk_if (fun _ => ?_) (fun _ => ?_)
      · refine pk_ob2 (w_f_X6_hasLaw_2 h p1) (fun r_15 h_15 k_7 => ?_)
        replace k_7 := Fr_trans (Fr_refl _ h) (Fr_mono fs_X6_hasLaw_2__X1_rule k_7)
        refine pk_if (fun _ => ?_) (fun _ => ?_)
        · exact pk_mono (w_f_X1_rule_21 h_15 p1) (fun _ k => Fr_trans k_7 (Fr_mono fs_X1_rule_21__X1_rule k))
        · refine pk_ob2 (w_f_X6_stepsEnd_2 (sI h_15 6 3 0) p1) (fun r_17 h_17 k_8 => ?_)
          replace k_8 := Fr_trans (Fr_sI fm_X1_rule_0_6_3 k_7) (Fr_mono fs_X6_stepsEnd_2__X1_rule k_8)
          refine pk_ob2 (w_f_X6_firstStep_2 h_17 p1) (fun r_18 h_18 k_9 => ?_)
          replace k_9 := Fr_trans k_8 (Fr_mono fs_X6_firstStep_2__X1_rule k_9)
          exact pk_mono (w_f_X1_rule_46c 8589934592 h_18 p1 r_17 r_18) (fun _ k => Fr_trans k_9 (Fr_mono fs_X1_rule_46c__X1_rule k))
      · refine pk_if (fun _ => ?_) (fun _ => ?_)
        · refine pk_ob2 (w_f_X6_hasLaw_3 h p1) (fun r_21 h_21 k_10 => ?_)
          replace k_10 := Fr_trans (Fr_refl _ h) (Fr_mono fs_X6_hasLaw_3__X1_rule k_10)
          refine pk_if (fun _ => ?_) (fun _ => ?_)
          · exact pk_mono (w_f_X1_rule_21 h_21 p1) (fun _ k => Fr_trans k_10 (Fr_mono fs_X1_rule_21__X1_rule k))
          · refine pk_ob2 (w_f_X6_stepsEnd_3 (sI h_21 6 3 0) p1) (fun r_23 h_23 k_11 => ?_)
            replace k_11 := Fr_trans (Fr_sI fm_X1_rule_0_6_3 k_10) (Fr_mono fs_X6_stepsEnd_3__X1_rule k_11)
            refine pk_ob2 (w_f_X6_firstStep_3 h_23 p1) (fun r_24 h_24 k_12 => ?_)
            replace k_12 := Fr_trans k_11 (Fr_mono fs_X6_firstStep_3__X1_rule k_12)
            exact pk_mono (w_f_X1_rule_46d 8589934592 h_24 p1 r_23 r_24) (fun _ k => Fr_trans k_12 (Fr_mono fs_X1_rule_46d__X1_rule k))
        · exact pk_mono (w_f_X1_rule_21 h p1) (fun _ k => Fr_trans (Fr_refl _ h) (Fr_mono fs_X1_rule_21__X1_rule k))
def S_X1_inkCost : CL := [(0, 6, 3), (1, 6, 1), (1, 6, 2)]
theorem fs_X1_lookAtFilled__X1_inkCost : ∀ x ∈ S_X1_lookAtFilled, x ∈ S_X1_inkCost := by decide
theorem fs_X1_rule__X1_inkCost : ∀ x ∈ S_X1_rule, x ∈ S_X1_inkCost := by decide
theorem w_f_X1_inkCost (h : HS) (p1 : Int32) (p2 : Int32) (p3 : Int32) : pk (f_X1_inkCost h p1 p2 p3) (fun a => Fr S_X1_inkCost h a.2) := by
  unfold f_X1_inkCost
  refine pk_ob1 (w_f_X1_lookAtFilled h p1 p2 p3) (fun h_1 k_1 => ?_)
  replace k_1 := Fr_trans (Fr_refl _ h) (Fr_mono fs_X1_lookAtFilled__X1_inkCost k_1)
  refine pk_ob2 (w_f_X1_rule h_1 2) (fun r_2 h_2 k_2 => ?_)
  replace k_2 := Fr_trans k_1 (Fr_mono fs_X1_rule__X1_inkCost k_2)
  exact pk_some k_2
def S_X1_isTrue_20 : CL := []
theorem w_f_X1_isTrue_20 (h : HS) (y0 : Int32) : pk (f_X1_isTrue_20 h y0) (fun a => Fr S_X1_isTrue_20 h a.2) := by
  unfold f_X1_isTrue_20
  refine pk_chk (fun _ => ?_)
  exact pk_some (Fr_refl _ h)
def S_X1_isTrue : CL := [(0, 6, 3), (1, 6, 1), (1, 6, 2)]
theorem fs_X1_lookAt__X1_isTrue : ∀ x ∈ S_X1_lookAt, x ∈ S_X1_isTrue := by decide
theorem fs_X1_rule__X1_isTrue : ∀ x ∈ S_X1_rule, x ∈ S_X1_isTrue := by decide
theorem fs_X1_isTrue_20__X1_isTrue : ∀ x ∈ S_X1_isTrue_20, x ∈ S_X1_isTrue := by decide
theorem w_f_X1_isTrue (h : HS) (p1 : Int32) : pk (f_X1_isTrue h p1) (fun a => Fr S_X1_isTrue h a.2) := by
  unfold f_X1_isTrue
  refine pk_ob1 (w_f_X1_lookAt h p1) (fun h_1 k_1 => ?_)
  replace k_1 := Fr_trans (Fr_refl _ h) (Fr_mono fs_X1_lookAt__X1_isTrue k_1)
  refine pk_ob2 (w_f_X1_rule h_1 3) (fun r_2 h_2 k_2 => ?_)
  replace k_2 := Fr_trans k_1 (Fr_mono fs_X1_rule__X1_isTrue k_2)
  refine pk_if (fun _ => ?_) (fun _ => ?_)
  · exact pk_mono (w_f_X1_isTrue_20 h_2 0) (fun _ k => Fr_trans k_2 (Fr_mono fs_X1_isTrue_20__X1_isTrue k))
  · exact pk_mono (w_f_X1_isTrue_20 h_2 1) (fun _ k => Fr_trans k_2 (Fr_mono fs_X1_isTrue_20__X1_isTrue k))
def S_X1_isTrueWith_27 : CL := []
theorem w_f_X1_isTrueWith_27 (h : HS) (y0 : Int32) : pk (f_X1_isTrueWith_27 h y0) (fun a => Fr S_X1_isTrueWith_27 h a.2) := by
  unfold f_X1_isTrueWith_27
  refine pk_chk (fun _ => ?_)
  exact pk_some (Fr_refl _ h)
def S_X1_isTrueWith : CL := [(0, 6, 3), (1, 6, 1), (1, 6, 2)]
theorem fm_X1_isTrueWith_1_6_1 : (1, 6, 1) ∈ S_X1_isTrueWith := by decide
theorem fs_X1_lookAt__X1_isTrueWith : ∀ x ∈ S_X1_lookAt, x ∈ S_X1_isTrueWith := by decide
theorem fs_X1_rule__X1_isTrueWith : ∀ x ∈ S_X1_rule, x ∈ S_X1_isTrueWith := by decide
theorem fs_X1_isTrueWith_27__X1_isTrueWith : ∀ x ∈ S_X1_isTrueWith_27, x ∈ S_X1_isTrueWith := by decide
theorem w_f_X1_isTrueWith (h : HS) (p1 : Int32) (p2 : Int32) : pk (f_X1_isTrueWith h p1 p2) (fun a => Fr S_X1_isTrueWith h a.2) := by
  unfold f_X1_isTrueWith
  refine pk_ob1 (w_f_X1_lookAt h p1) (fun h_1 k_1 => ?_)
  replace k_1 := Fr_trans (Fr_refl _ h) (Fr_mono fs_X1_lookAt__X1_isTrueWith k_1)
  refine pk_ob2 (w_f_X1_rule (sA h_1 6 1 (upd (eA h_1 6 1) 2 p2)) 3) (fun r_2 h_2 k_2 => ?_)
  replace k_2 := Fr_trans (Fr_sA fm_X1_isTrueWith_1_6_1 k_1) (Fr_mono fs_X1_rule__X1_isTrueWith k_2)
  refine pk_if (fun _ => ?_) (fun _ => ?_)
  · exact pk_mono (w_f_X1_isTrueWith_27 h_2 0) (fun _ k => Fr_trans k_2 (Fr_mono fs_X1_isTrueWith_27__X1_isTrueWith k))
  · exact pk_mono (w_f_X1_isTrueWith_27 h_2 1) (fun _ k => Fr_trans k_2 (Fr_mono fs_X1_isTrueWith_27__X1_isTrueWith k))
def S_X0_add_129 : CL := [(2, 7, 1), (3, 7, 2), (3, 7, 3)]
theorem fm_X0_add_129_2_7_1 : (2, 7, 1) ∈ S_X0_add_129 := by decide
theorem fm_X0_add_129_3_7_2 : (3, 7, 2) ∈ S_X0_add_129 := by decide
theorem fm_X0_add_129_3_7_3 : (3, 7, 3) ∈ S_X0_add_129 := by decide
theorem w_f_X0_add_129  : ∀ (n : Nat) (h : HS) (x4 : Int32) (x5 : Int32) (x7 : Int32) (x8 : Int32) (x9 : Int32), pk (f_X0_add_129  n h x4 x5 x7 x8 x9) (fun a => Fr S_X0_add_129 h a) := by
  intro n
  induction n with
  | zero => intro h x4 x5 x7 x8 x9; exact pk_none
  | succ n ih =>
    intro h x4 x5 x7 x8 x9
    rw [f_X0_add_129_s]
    refine pk_if (fun _ => ?_) (fun _ => ?_)
    · exact pk_some (Fr_sL fm_X0_add_129_2_7_1 (Fr_sJ fm_X0_add_129_3_7_2 (Fr_refl _ h)))
    · refine pk_chk (fun _ => ?_)
      refine pk_chk (fun _ => ?_)
      refine pk_chk (fun _ => ?_)
      refine pk_chk (fun _ => ?_)
      refine pk_chk (fun _ => ?_)
      refine pk_chk (fun _ => ?_)
      exact pk_mono (ih (sJ (sJ h 7 3 (vp_updL (eJ h 7 3) (((x9 ||| (x5 * 4))).toNatClampNeg) (((eJ h 7 3) (((x9 ||| (x5 * 4))).toNatClampNeg)) + (((eJ h 7 2) ((x9).toNatClampNeg)) * ((x8).toInt64))))) 7 3 (vp_updL (vp_updL (eJ h 7 3) (((x9 ||| (x5 * 4))).toNatClampNeg) (((eJ h 7 3) (((x9 ||| (x5 * 4))).toNatClampNeg)) + (((eJ h 7 2) ((x9).toNatClampNeg)) * ((x8).toInt64)))) (((x9 ||| x4)).toNatClampNeg) (((vp_updL (eJ h 7 3) (((x9 ||| (x5 * 4))).toNatClampNeg) (((eJ h 7 3) (((x9 ||| (x5 * 4))).toNatClampNeg)) + (((eJ h 7 2) ((x9).toNatClampNeg)) * ((x8).toInt64)))) (((x9 ||| x4)).toNatClampNeg)) + (((eJ h 7 2) ((x9).toNatClampNeg)) * ((x7).toInt64))))) x4 x5 x7 x8 (x9 + 1)) (fun _ k => Fr_trans (Fr_sJ fm_X0_add_129_3_7_3 (Fr_sJ fm_X0_add_129_3_7_3 (Fr_refl _ h))) k)
def S_X0_add_86 : CL := [(2, 7, 1), (3, 7, 2), (3, 7, 3)]
theorem fm_X0_add_86_3_7_3 : (3, 7, 3) ∈ S_X0_add_86 := by decide
theorem fs_X0_add_129__X0_add_86 : ∀ x ∈ S_X0_add_129, x ∈ S_X0_add_86 := by decide
theorem w_f_X0_add_86  : ∀ (n : Nat) (h : HS) (x4 : Int32) (x5 : Int32) (x7 : Int32) (x8 : Int32) (x9 : Int32), pk (f_X0_add_86  n h x4 x5 x7 x8 x9) (fun a => Fr S_X0_add_86 h a) := by
  intro n
  induction n with
  | zero => intro h x4 x5 x7 x8 x9; exact pk_none
  | succ n ih =>
    intro h x4 x5 x7 x8 x9
    rw [f_X0_add_86_s]
    refine pk_if (fun _ => ?_) (fun _ => ?_)
    · exact pk_mono (w_f_X0_add_129 8589934592 h x4 x5 x7 x8 0) (fun _ k => Fr_trans (Fr_refl _ h) (Fr_mono fs_X0_add_129__X0_add_86 k))
    · refine pk_chk (fun _ => ?_)
      refine pk_chk (fun _ => ?_)
      exact pk_mono (ih (sJ h 7 3 (vp_updL (eJ h 7 3) ((x9).toNatClampNeg) (((eJ h 7 2) ((x9).toNatClampNeg)) * ((((100 - x8) - x7)).toInt64)))) x4 x5 x7 x8 (x9 + 1)) (fun _ k => Fr_trans (Fr_sJ fm_X0_add_86_3_7_3 (Fr_refl _ h)) k)
def S_X0_add_46 : CL := [(0, 6, 3), (1, 6, 1), (1, 6, 2), (2, 7, 1), (3, 7, 2), (3, 7, 3)]
theorem fs_X1_lookAtTraveller__X0_add_46 : ∀ x ∈ S_X1_lookAtTraveller, x ∈ S_X0_add_46 := by decide
theorem fs_X1_rule__X0_add_46 : ∀ x ∈ S_X1_rule, x ∈ S_X0_add_46 := by decide
theorem fs_X0_add_86__X0_add_46 : ∀ x ∈ S_X0_add_86, x ∈ S_X0_add_46 := by decide
theorem w_f_X0_add_46 (h : HS) (x3 : Int32) (x4 : Int32) (y0 : Int32) : pk (f_X0_add_46 h x3 x4 y0) (fun a => Fr S_X0_add_46 h a) := by
  unfold f_X0_add_46
  refine pk_ob1 (w_f_X1_lookAtTraveller h x3) (fun h_6 k_1 => ?_)
  replace k_1 := Fr_trans (Fr_refl _ h) (Fr_mono fs_X1_lookAtTraveller__X0_add_46 k_1)
  refine pk_ob2 (w_f_X1_rule h_6 0) (fun r_7 h_7 k_2 => ?_)
  replace k_2 := Fr_trans k_1 (Fr_mono fs_X1_rule__X0_add_46 k_2)
  refine pk_ob2 (w_f_X1_rule h_7 1) (fun r_8 h_8 k_3 => ?_)
  replace k_3 := Fr_trans k_2 (Fr_mono fs_X1_rule__X0_add_46 k_3)
  exact pk_mono (w_f_X0_add_86 8589934592 h_8 x4 y0 (r_7 * r_8) ((10 - r_7) * 10) 0) (fun _ k => Fr_trans k_3 (Fr_mono fs_X0_add_86__X0_add_46 k))
def S_X0_add : CL := [(0, 6, 3), (0, 7, 0), (1, 6, 1), (1, 6, 2), (2, 7, 1), (3, 7, 2), (3, 7, 3)]
theorem fm_X0_add_0_7_0 : (0, 7, 0) ∈ S_X0_add := by decide
theorem fs_X4_ofGoose__X0_add : ∀ x ∈ S_X4_ofGoose, x ∈ S_X0_add := by decide
theorem fs_X1_isTrue__X0_add : ∀ x ∈ S_X1_isTrue, x ∈ S_X0_add := by decide
theorem fs_X0_add_46__X0_add : ∀ x ∈ S_X0_add_46, x ∈ S_X0_add := by decide
theorem w_f_X0_add (h : HS) (p1 : Int32) : pk (f_X0_add h p1) (fun a => Fr S_X0_add h a) := by
  unfold f_X0_add
  refine pk_if (fun _ => ?_) (fun _ => ?_)
  · refine pk_ob2 (w_f_X4_ofGoose (sI h 7 0 ((eI h 7 0) + 1)) p1 3) (fun r_2 h_2 k_1 => ?_)
    replace k_1 := Fr_trans (Fr_sI fm_X0_add_0_7_0 (Fr_refl _ h)) (Fr_mono fs_X4_ofGoose__X0_add k_1)
    refine pk_obf (fun r_3 => ?_)
    refine pk_ob2 (w_f_X1_isTrue h_2 p1) (fun r_4 h_4 k_2 => ?_)
    replace k_2 := Fr_trans k_1 (Fr_mono fs_X1_isTrue__X0_add k_2)
    refine pk_if (fun _ => ?_) (fun _ => ?_)
    · exact pk_mono (w_f_X0_add_46 h_4 p1 r_3 0) (fun _ k => Fr_trans k_2 (Fr_mono fs_X0_add_46__X0_add k))
    · exact pk_mono (w_f_X0_add_46 h_4 p1 r_3 r_3) (fun _ k => Fr_trans k_2 (Fr_mono fs_X0_add_46__X0_add k))
  · exact pk_some (Fr_sI fm_X0_add_0_7_0 (Fr_refl _ h))
def S_tryMarkets : CL := [(0, 8, 12), (0, 8, 13), (0, 8, 15), (1, 8, 5), (1, 8, 6), (1, 8, 7), (2, 8, 14)]
theorem fs_X3_compare__tryMarkets : ∀ x ∈ S_X3_compare, x ∈ S_tryMarkets := by decide
theorem w_f_X3_tryMarkets_13 (kR_X3_tryMarkets : HS → Int32 → Option HS) (hk_kR_X3_tryMarkets : ∀ (h : HS) (x0 : Int32), pk (kR_X3_tryMarkets h x0) (fun a => Fr S_tryMarkets h a)) (h : HS) : pk (f_X3_tryMarkets_13 kR_X3_tryMarkets h) (fun a => Fr S_tryMarkets h a) := by
  unfold f_X3_tryMarkets_13
  refine pk_ob1 (w_f_X3_compare h) (fun h_3 k_1 => ?_)
  replace k_1 := Fr_trans (Fr_refl _ h) (Fr_mono fs_X3_compare__tryMarkets k_1)
  exact pk_some k_1
theorem fm_tryMarkets_1_8_5 : (1, 8, 5) ∈ S_tryMarkets := by decide
theorem w_f_X3_tryMarkets_20 (kR_X3_tryMarkets : HS → Int32 → Option HS) (hk_kR_X3_tryMarkets : ∀ (h : HS) (x0 : Int32), pk (kR_X3_tryMarkets h x0) (fun a => Fr S_tryMarkets h a)) : ∀ (n : Nat) (h : HS) (x1 : Int32) (x2 : Int32), pk (f_X3_tryMarkets_20 kR_X3_tryMarkets n h x1 x2) (fun a => Fr S_tryMarkets h a) := by
  intro n
  induction n with
  | zero => intro h x1 x2; exact pk_none
  | succ n ih =>
    intro h x1 x2
    rw [f_X3_tryMarkets_20_s]
    refine pk_if (fun _ => ?_) (fun _ => ?_)
    · exact pk_some (Fr_refl _ h)
    · refine pk_chk (fun _ => ?_)
      refine pk_ob1 (hk_kR_X3_tryMarkets (sA h 8 5 (upd (eA h 8 5) ((x1).toNatClampNeg) x2)) (x1 + 1)) (fun h_6 k_1 => ?_)
      replace k_1 := Fr_trans (Fr_sA fm_tryMarkets_1_8_5 (Fr_refl _ h)) k_1
      exact pk_mono (ih h_6 x1 (x2 + 1)) (fun _ k => Fr_trans k_1 k)
theorem w_f_X3_tryMarkets_b (kR_X3_tryMarkets : HS → Int32 → Option HS) (hk_kR_X3_tryMarkets : ∀ (h : HS) (x0 : Int32), pk (kR_X3_tryMarkets h x0) (fun a => Fr S_tryMarkets h a)) (h : HS) (p1 : Int32) : pk (f_X3_tryMarkets_b kR_X3_tryMarkets h p1) (fun a => Fr S_tryMarkets h a) := by
  unfold f_X3_tryMarkets_b
  refine pk_if (fun _ => ?_) (fun _ => ?_)
  · exact pk_mono (w_f_X3_tryMarkets_13 kR_X3_tryMarkets hk_kR_X3_tryMarkets h) (fun _ k => Fr_trans (Fr_refl _ h) k)
  · refine pk_if (fun _ => ?_) (fun _ => ?_)
    · exact pk_mono (w_f_X3_tryMarkets_20 kR_X3_tryMarkets hk_kR_X3_tryMarkets 8589934592 h p1 0) (fun _ k => Fr_trans (Fr_refl _ h) k)
    · exact pk_mono (w_f_X3_tryMarkets_13 kR_X3_tryMarkets hk_kR_X3_tryMarkets h) (fun _ k => Fr_trans (Fr_refl _ h) k)
theorem w_G_tryMarkets : ∀ (n t : Nat) (h : HS) (p1 : Int32), pk (G_tryMarkets n t h p1) (fun a => Fr S_tryMarkets h a) := by
  intro n
  induction n with
  | zero => intro t h p1; exact (by simp [G_tryMarkets]; exact pk_none)
  | succ n ih =>
    intro t h p1
    exact w_f_X3_tryMarkets_b (fun h p1 => G_tryMarkets n 0 h p1) (fun h p1 => ih 0 h p1) h p1
def S_X3_tryPatterns_152 : CL := []
theorem w_f_X3_tryPatterns_152 (h : HS) : pk (f_X3_tryPatterns_152 h) (fun a => Fr S_X3_tryPatterns_152 h a) := by
  unfold f_X3_tryPatterns_152
  exact pk_some (Fr_refl _ h)
def S_X3_tryPatterns_38 : CL := [(0, 8, 12), (0, 8, 13), (0, 8, 15), (1, 8, 4), (1, 8, 5), (1, 8, 6), (1, 8, 7), (2, 8, 14)]
theorem w_f_X3_tryPatterns_146 (k38 : HS → Int32 → Int32 → Option HS) (hk_k38 : ∀ (h : HS) (x0 : Int32) (x1 : Int32), pk (k38 h x0 x1) (fun a => Fr S_X3_tryPatterns_38 h a)) (h : HS) (x1 : Int32) (x2 : Int32) : pk (f_X3_tryPatterns_146 k38 h x1 x2) (fun a => Fr S_X3_tryPatterns_38 h a) := by
  unfold f_X3_tryPatterns_146
  exact pk_mono (hk_k38 h x1 (x2 + 1)) (fun _ k => Fr_trans (Fr_refl _ h) k)
theorem fs_tryMarkets__X3_tryPatterns_38 : ∀ x ∈ S_tryMarkets, x ∈ S_X3_tryPatterns_38 := by decide
theorem w_f_X3_tryPatterns_141 (k38 : HS → Int32 → Int32 → Option HS) (hk_k38 : ∀ (h : HS) (x0 : Int32) (x1 : Int32), pk (k38 h x0 x1) (fun a => Fr S_X3_tryPatterns_38 h a)) (h : HS) (x1 : Int32) (x2 : Int32) : pk (f_X3_tryPatterns_141 k38 h x1 x2) (fun a => Fr S_X3_tryPatterns_38 h a) := by
  unfold f_X3_tryPatterns_141
  refine pk_ob1 (w_G_tryMarkets 6 0 h 0) (fun h_17 k_1 => ?_)
  replace k_1 := Fr_trans (Fr_refl _ h) (Fr_mono fs_tryMarkets__X3_tryPatterns_38 k_1)
  exact pk_mono (w_f_X3_tryPatterns_146 k38 hk_k38 h_17 x1 x2) (fun _ k => Fr_trans k_1 k)
theorem fm_X3_tryPatterns_38_1_8_5 : (1, 8, 5) ∈ S_X3_tryPatterns_38 := by decide
theorem fm_X3_tryPatterns_38_1_8_4 : (1, 8, 4) ∈ S_X3_tryPatterns_38 := by decide
theorem fs_X3_missOf_f__X3_tryPatterns_38 : ∀ x ∈ S_X3_missOf_f, x ∈ S_X3_tryPatterns_38 := by decide
theorem fs_X3_isEnough__X3_tryPatterns_38 : ∀ x ∈ S_X3_isEnough, x ∈ S_X3_tryPatterns_38 := by decide
theorem fs_X3_missOf_r__X3_tryPatterns_38 : ∀ x ∈ S_X3_missOf_r, x ∈ S_X3_tryPatterns_38 := by decide
theorem fs_X3_isBetter__X3_tryPatterns_38 : ∀ x ∈ S_X3_isBetter, x ∈ S_X3_tryPatterns_38 := by decide
theorem w_f_X3_tryPatterns_69 (k38 : HS → Int32 → Int32 → Option HS) (hk_k38 : ∀ (h : HS) (x0 : Int32) (x1 : Int32), pk (k38 h x0 x1) (fun a => Fr S_X3_tryPatterns_38 h a)) : ∀ (n : Nat) (h : HS) (x1 : Int32) (x2 : Int32) (x3 : Int32) (x4 : Int32), pk (f_X3_tryPatterns_69 k38 n h x1 x2 x3 x4) (fun a => Fr S_X3_tryPatterns_38 h a) := by
  intro n
  induction n with
  | zero => intro h x1 x2 x3 x4; exact pk_none
  | succ n ih =>
    intro h x1 x2 x3 x4
    rw [f_X3_tryPatterns_69_s]
    refine pk_if (fun _ => ?_) (fun _ => ?_)
    · refine pk_ob2 (w_f_X3_missOf_f h) (fun r_8 h_8 k_1 => ?_)
      replace k_1 := Fr_trans (Fr_refl _ h) (Fr_mono fs_X3_missOf_f__X3_tryPatterns_38 k_1)
      refine pk_ob2 (w_f_X3_isEnough h_8 r_8) (fun r_9 h_9 k_2 => ?_)
      replace k_2 := Fr_trans k_1 (Fr_mono fs_X3_isEnough__X3_tryPatterns_38 k_2)
      refine pk_if (fun _ => ?_) (fun _ => ?_)
      · exact pk_mono (w_f_X3_tryPatterns_146 k38 hk_k38 h_9 x1 x2) (fun _ k => Fr_trans k_2 k)
      · refine pk_if (fun _ => ?_) (fun _ => ?_)
        · refine pk_ob2 (w_f_X3_missOf_r h_9) (fun r_12 h_12 k_3 => ?_)
          replace k_3 := Fr_trans k_2 (Fr_mono fs_X3_missOf_r__X3_tryPatterns_38 k_3)
          refine pk_ob2 (w_f_X3_isBetter h_12 r_12) (fun r_13 h_13 k_4 => ?_)
          replace k_4 := Fr_trans k_3 (Fr_mono fs_X3_isBetter__X3_tryPatterns_38 k_4)
          refine pk_if (fun _ => ?_) (fun _ => ?_)
          · exact pk_mono (w_f_X3_tryPatterns_146 k38 hk_k38 h_13 x1 x2) (fun _ k => Fr_trans k_4 k)
          · exact pk_mono (w_f_X3_tryPatterns_141 k38 hk_k38 h_13 x1 x2) (fun _ k => Fr_trans k_4 k)
        · exact pk_mono (w_f_X3_tryPatterns_141 k38 hk_k38 h_9 x1 x2) (fun _ k => Fr_trans k_2 k)
    · refine pk_chk (fun _ => ?_)
      refine pk_chk (fun _ => ?_)
      exact pk_mono (ih (sA (sA h 8 4 (upd (eA h 8 4) ((x4).toNatClampNeg) (x3 - x3 / 10 * 10))) 8 5 (upd (eA h 8 5) ((x4).toNatClampNeg) 4)) x1 x2 (x3 / 10) (x4 + (-1))) (fun _ k => Fr_trans (Fr_sA fm_X3_tryPatterns_38_1_8_5 (Fr_sA fm_X3_tryPatterns_38_1_8_4 (Fr_refl _ h))) k)
theorem fs_X3_tryPatterns_152__X3_tryPatterns_38 : ∀ x ∈ S_X3_tryPatterns_152, x ∈ S_X3_tryPatterns_38 := by decide
theorem w_f_X3_tryPatterns_38  : ∀ (n : Nat) (h : HS) (x1 : Int32) (x2 : Int32), pk (f_X3_tryPatterns_38  n h x1 x2) (fun a => Fr S_X3_tryPatterns_38 h a) := by
  intro n
  induction n with
  | zero => intro h x1 x2; exact pk_none
  | succ n ih =>
    intro h x1 x2
    rw [f_X3_tryPatterns_38_s]
    refine pk_if (fun _ => ?_) (fun _ => ?_)
    · exact pk_mono (w_f_X3_tryPatterns_152 h) (fun _ k => Fr_trans (Fr_refl _ h) (Fr_mono fs_X3_tryPatterns_152__X3_tryPatterns_38 k))
    · refine pk_if (fun _ => ?_) (fun _ => ?_)
      · exact pk_mono (w_f_X3_tryPatterns_152 h) (fun _ k => Fr_trans (Fr_refl _ h) (Fr_mono fs_X3_tryPatterns_152__X3_tryPatterns_38 k))
      · refine pk_chk (fun _ => ?_)
        exact pk_mono (w_f_X3_tryPatterns_69 (f_X3_tryPatterns_38 n) ih 8589934592 h x1 x2 (gPat ((x2).toNatClampNeg)) ((if 3 < (eI h 8 8) then 3 else (eI h 8 8)) - 1)) (fun _ k => Fr_trans (Fr_refl _ h) k)
def S_X3_tryPatterns_35 : CL := [(0, 8, 12), (0, 8, 13), (0, 8, 15), (1, 8, 4), (1, 8, 5), (1, 8, 6), (1, 8, 7), (2, 8, 14)]
theorem fs_X3_tryPatterns_38__X3_tryPatterns_35 : ∀ x ∈ S_X3_tryPatterns_38, x ∈ S_X3_tryPatterns_35 := by decide
theorem w_f_X3_tryPatterns_35 (h : HS) (y0 : Int32) : pk (f_X3_tryPatterns_35 h y0) (fun a => Fr S_X3_tryPatterns_35 h a) := by
  unfold f_X3_tryPatterns_35
  exact pk_mono (w_f_X3_tryPatterns_38 8589934592 h y0 0) (fun _ k => Fr_trans (Fr_refl _ h) (Fr_mono fs_X3_tryPatterns_38__X3_tryPatterns_35 k))
def S_X3_tryPatterns_34 : CL := [(0, 8, 12), (0, 8, 13), (0, 8, 15), (1, 8, 4), (1, 8, 5), (1, 8, 6), (1, 8, 7), (2, 8, 14)]
theorem fs_X3_tryPatterns_35__X3_tryPatterns_34 : ∀ x ∈ S_X3_tryPatterns_35, x ∈ S_X3_tryPatterns_34 := by decide
theorem w_f_X3_tryPatterns_34 (h : HS) : pk (f_X3_tryPatterns_34 h) (fun a => Fr S_X3_tryPatterns_34 h a) := by
  unfold f_X3_tryPatterns_34
  exact pk_mono (w_f_X3_tryPatterns_35 h 0) (fun _ k => Fr_trans (Fr_refl _ h) (Fr_mono fs_X3_tryPatterns_35__X3_tryPatterns_34 k))
def S_X3_tryPatterns : CL := [(0, 8, 12), (0, 8, 13), (0, 8, 15), (1, 8, 4), (1, 8, 5), (1, 8, 6), (1, 8, 7), (2, 8, 14)]
theorem fm_X3_tryPatterns_0_8_13 : (0, 8, 13) ∈ S_X3_tryPatterns := by decide
theorem fs_X3_tryPatterns_34__X3_tryPatterns : ∀ x ∈ S_X3_tryPatterns_34, x ∈ S_X3_tryPatterns := by decide
theorem fs_X3_tryPatterns_35__X3_tryPatterns : ∀ x ∈ S_X3_tryPatterns_35, x ∈ S_X3_tryPatterns := by decide
theorem w_f_X3_tryPatterns (h : HS) : pk (f_X3_tryPatterns h) (fun a => Fr S_X3_tryPatterns h a) := by
  unfold f_X3_tryPatterns
  refine pk_if (fun _ => ?_) (fun _ => ?_)
  · exact pk_mono (w_f_X3_tryPatterns_34 (sI h 8 13 0)) (fun _ k => Fr_trans (Fr_sI fm_X3_tryPatterns_0_8_13 (Fr_refl _ h)) (Fr_mono fs_X3_tryPatterns_34__X3_tryPatterns k))
  · refine pk_if (fun _ => ?_) (fun _ => ?_)
    · exact pk_mono (w_f_X3_tryPatterns_34 (sI h 8 13 0)) (fun _ k => Fr_trans (Fr_sI fm_X3_tryPatterns_0_8_13 (Fr_refl _ h)) (Fr_mono fs_X3_tryPatterns_34__X3_tryPatterns k))
    · refine pk_chk (fun _ => ?_)
      exact pk_mono (w_f_X3_tryPatterns_35 (sI h 8 13 0) (gCnt (((eI h 8 8)).toNatClampNeg))) (fun _ k => Fr_trans (Fr_sI fm_X3_tryPatterns_0_8_13 (Fr_refl _ h)) (Fr_mono fs_X3_tryPatterns_35__X3_tryPatterns k))
def S_tryGeese : CL := [(0, 8, 12), (0, 8, 13), (0, 8, 15), (1, 8, 3), (1, 8, 4), (1, 8, 5), (1, 8, 6), (1, 8, 7), (2, 8, 14)]
theorem fs_X3_tryPatterns__tryGeese : ∀ x ∈ S_X3_tryPatterns, x ∈ S_tryGeese := by decide
theorem w_f_X3_tryGeese_13 (kR_X3_tryGeese : HS → Int32 → Int32 → Option HS) (hk_kR_X3_tryGeese : ∀ (h : HS) (x0 : Int32) (x1 : Int32), pk (kR_X3_tryGeese h x0 x1) (fun a => Fr S_tryGeese h a)) (h : HS) : pk (f_X3_tryGeese_13 kR_X3_tryGeese h) (fun a => Fr S_tryGeese h a) := by
  unfold f_X3_tryGeese_13
  refine pk_ob1 (w_f_X3_tryPatterns h) (fun h_3 k_1 => ?_)
  replace k_1 := Fr_trans (Fr_refl _ h) (Fr_mono fs_X3_tryPatterns__tryGeese k_1)
  exact pk_some k_1
theorem w_f_X3_tryGeese_52 (kR_X3_tryGeese : HS → Int32 → Int32 → Option HS) (hk_kR_X3_tryGeese : ∀ (h : HS) (x0 : Int32) (x1 : Int32), pk (kR_X3_tryGeese h x0 x1) (fun a => Fr S_tryGeese h a)) (k20 : HS → Int32 → Int32 → Option HS) (hk_k20 : ∀ (h : HS) (x0 : Int32) (x1 : Int32), pk (k20 h x0 x1) (fun a => Fr S_tryGeese h a)) (h : HS) (x1 : Int32) (x3 : Int32) : pk (f_X3_tryGeese_52 kR_X3_tryGeese k20 h x1 x3) (fun a => Fr S_tryGeese h a) := by
  unfold f_X3_tryGeese_52
  exact pk_mono (hk_k20 h x1 (x3 + 1)) (fun _ k => Fr_trans (Fr_refl _ h) k)
theorem fm_tryGeese_1_8_3 : (1, 8, 3) ∈ S_tryGeese := by decide
theorem w_f_X3_tryGeese_20 (kR_X3_tryGeese : HS → Int32 → Int32 → Option HS) (hk_kR_X3_tryGeese : ∀ (h : HS) (x0 : Int32) (x1 : Int32), pk (kR_X3_tryGeese h x0 x1) (fun a => Fr S_tryGeese h a)) : ∀ (n : Nat) (h : HS) (x1 : Int32) (x3 : Int32), pk (f_X3_tryGeese_20 kR_X3_tryGeese n h x1 x3) (fun a => Fr S_tryGeese h a) := by
  intro n
  induction n with
  | zero => intro h x1 x3; exact pk_none
  | succ n ih =>
    intro h x1 x3
    rw [f_X3_tryGeese_20_s]
    refine pk_if (fun _ => ?_) (fun _ => ?_)
    · exact pk_some (Fr_refl _ h)
    · refine pk_chk (fun _ => ?_)
      refine pk_if (fun _ => ?_) (fun _ => ?_)
      · exact pk_mono (w_f_X3_tryGeese_52 kR_X3_tryGeese hk_kR_X3_tryGeese (f_X3_tryGeese_20 kR_X3_tryGeese n) ih h x1 x3) (fun _ k => Fr_trans (Fr_refl _ h) k)
      · refine pk_chk (fun _ => ?_)
        refine pk_ob1 (hk_kR_X3_tryGeese (sA h 8 3 (upd (eA h 8 3) ((x1).toNatClampNeg) x3)) (x1 + 1) (x3 + 1)) (fun h_8 k_1 => ?_)
        replace k_1 := Fr_trans (Fr_sA fm_tryGeese_1_8_3 (Fr_refl _ h)) k_1
        exact pk_mono (w_f_X3_tryGeese_52 kR_X3_tryGeese hk_kR_X3_tryGeese (f_X3_tryGeese_20 kR_X3_tryGeese n) ih h_8 x1 x3) (fun _ k => Fr_trans k_1 k)
theorem w_f_X3_tryGeese_b (kR_X3_tryGeese : HS → Int32 → Int32 → Option HS) (hk_kR_X3_tryGeese : ∀ (h : HS) (x0 : Int32) (x1 : Int32), pk (kR_X3_tryGeese h x0 x1) (fun a => Fr S_tryGeese h a)) (h : HS) (p1 : Int32) (p2 : Int32) : pk (f_X3_tryGeese_b kR_X3_tryGeese h p1 p2) (fun a => Fr S_tryGeese h a) := by
  unfold f_X3_tryGeese_b
  refine pk_if (fun _ => ?_) (fun _ => ?_)
  · exact pk_mono (w_f_X3_tryGeese_13 kR_X3_tryGeese hk_kR_X3_tryGeese h) (fun _ k => Fr_trans (Fr_refl _ h) k)
  · refine pk_if (fun _ => ?_) (fun _ => ?_)
    · exact pk_mono (w_f_X3_tryGeese_20 kR_X3_tryGeese hk_kR_X3_tryGeese 8589934592 h p1 p2) (fun _ k => Fr_trans (Fr_refl _ h) k)
    · exact pk_mono (w_f_X3_tryGeese_13 kR_X3_tryGeese hk_kR_X3_tryGeese h) (fun _ k => Fr_trans (Fr_refl _ h) k)
theorem w_G_tryGeese : ∀ (n t : Nat) (h : HS) (p1 p2 : Int32), pk (G_tryGeese n t h p1 p2) (fun a => Fr S_tryGeese h a) := by
  intro n
  induction n with
  | zero => intro t h p1 p2; exact (by simp [G_tryGeese]; exact pk_none)
  | succ n ih =>
    intro t h p1 p2
    exact w_f_X3_tryGeese_b (fun h p1 p2 => G_tryGeese n 0 h p1 p2) (fun h p1 p2 => ih 0 h p1 p2) h p1 p2
def S_X3_weighGoose_3 : CL := [(0, 6, 3), (1, 6, 1), (1, 6, 2), (1, 8, 0), (1, 8, 1)]
theorem fm_X3_weighGoose_3_1_8_0 : (1, 8, 0) ∈ S_X3_weighGoose_3 := by decide
theorem fm_X3_weighGoose_3_1_8_1 : (1, 8, 1) ∈ S_X3_weighGoose_3 := by decide
theorem fs_X1_rule__X3_weighGoose_3 : ∀ x ∈ S_X1_rule, x ∈ S_X3_weighGoose_3 := by decide
theorem w_f_X3_weighGoose_133 (k3 : HS → Int32 → Int32 → Int32 → Option HS) (hk_k3 : ∀ (h : HS) (x0 : Int32) (x1 : Int32) (x2 : Int32), pk (k3 h x0 x1 x2) (fun a => Fr S_X3_weighGoose_3 h a)) (k64 : HS → Int32 → Int32 → Int32 → Int32 → Int32 → Int32 → Option HS) (hk_k64 : ∀ (h : HS) (x0 : Int32) (x1 : Int32) (x2 : Int32) (x3 : Int32) (x4 : Int32) (x5 : Int32), pk (k64 h x0 x1 x2 x3 x4 x5) (fun a => Fr S_X3_weighGoose_3 h a)) (h : HS) (x3 : Int32) (x4 : Int32) (x5 : Int32) (x6 : Int32) (x7 : Int32) (x8 : Int32) (x9 : Int32) (x10 : Int32) (y0 : Int32) (y1 : Int32) : pk (f_X3_weighGoose_133 k3 k64 h x3 x4 x5 x6 x7 x8 x9 x10 y0 y1) (fun a => Fr S_X3_weighGoose_3 h a) := by
  unfold f_X3_weighGoose_133
  refine pk_chk (fun _ => ?_)
  refine pk_ob2 (w_f_X1_rule (sA h 8 0 (upd (eA h 8 0) ((y1).toNatClampNeg) y0)) 1) (fun r_15 h_15 k_1 => ?_)
  replace k_1 := Fr_trans (Fr_sA fm_X3_weighGoose_3_1_8_0 (Fr_refl _ h)) (Fr_mono fs_X1_rule__X3_weighGoose_3 k_1)
  refine pk_chk (fun _ => ?_)
  refine pk_chk (fun _ => ?_)
  refine pk_chk (fun _ => ?_)
  refine pk_chk (fun _ => ?_)
  refine pk_chk (fun _ => ?_)
  refine pk_chk (fun _ => ?_)
  refine pk_chk (fun _ => ?_)
  exact pk_mono (hk_k64 (sA (sA (sA h_15 8 1 (upd (eA h_15 8 1) ((x10).toNatClampNeg) (x9 * r_15))) 8 0 (upd (eA h_15 8 0) ((x7).toNatClampNeg) (if ((eA h_15 8 0) ((x7).toNatClampNeg)) < ((eA h_15 8 0) ((x10).toNatClampNeg)) then ((eA h_15 8 0) ((x10).toNatClampNeg)) else ((eA h_15 8 0) ((x7).toNatClampNeg))))) 8 1 (upd (upd (eA h_15 8 1) ((x10).toNatClampNeg) (x9 * r_15)) ((x7).toNatClampNeg) (if ((upd (eA h_15 8 1) ((x10).toNatClampNeg) (x9 * r_15)) ((x10).toNatClampNeg)) < ((upd (eA h_15 8 1) ((x10).toNatClampNeg) (x9 * r_15)) ((x7).toNatClampNeg)) then ((upd (eA h_15 8 1) ((x10).toNatClampNeg) (x9 * r_15)) ((x10).toNatClampNeg)) else ((upd (eA h_15 8 1) ((x10).toNatClampNeg) (x9 * r_15)) ((x7).toNatClampNeg))))) x3 x4 x5 x6 x7 (x8 + 1)) (fun _ k => Fr_trans (Fr_sA fm_X3_weighGoose_3_1_8_1 (Fr_sA fm_X3_weighGoose_3_1_8_0 (Fr_sA fm_X3_weighGoose_3_1_8_1 k_1))) k)
