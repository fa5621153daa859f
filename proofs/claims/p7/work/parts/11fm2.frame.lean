def S_X9_pluck_17 : CL := []
theorem w_f_X9_pluck_17 (h : HS) : pk (f_X9_pluck_17 h) (fun a => Fr S_X9_pluck_17 h a.2) := by
  unfold f_X9_pluck_17
  exact pk_some (Fr_refl _ h)
def S_X9_pluck : CL := [(1, 0, 0)]
theorem fs_X9_isHome__X9_pluck : ∀ x ∈ S_X9_isHome, x ∈ S_X9_pluck := by decide
theorem fs_X9_pluck_17__X9_pluck : ∀ x ∈ S_X9_pluck_17, x ∈ S_X9_pluck := by decide
theorem fs_X9_ofGoose__X9_pluck : ∀ x ∈ S_X9_ofGoose, x ∈ S_X9_pluck := by decide
theorem fs_X9_keepsStep__X9_pluck : ∀ x ∈ S_X9_keepsStep, x ∈ S_X9_pluck := by decide
theorem fs_X9_puts__X9_pluck : ∀ x ∈ S_X9_puts, x ∈ S_X9_pluck := by decide
theorem w_f_X9_pluck (h : HS) (p1 : Int32) : pk (f_X9_pluck h p1) (fun a => Fr S_X9_pluck h a.2) := by
  unfold f_X9_pluck
  refine pk_ob2 (w_f_X9_isHome h p1) (fun r_1 h_1 k_1 => ?_)
  replace k_1 := Fr_trans (Fr_refl _ h) (Fr_mono fs_X9_isHome__X9_pluck k_1)
  refine pk_if (fun _ => ?_) (fun _ => ?_)
  · exact pk_mono (w_f_X9_pluck_17 h_1) (fun _ k => Fr_trans k_1 (Fr_mono fs_X9_pluck_17__X9_pluck k))
  · refine pk_ob2 (w_f_X9_ofGoose h_1 p1 1) (fun r_3 h_3 k_2 => ?_)
    replace k_2 := Fr_trans k_1 (Fr_mono fs_X9_ofGoose__X9_pluck k_2)
    refine pk_if (fun _ => ?_) (fun _ => ?_)
    · exact pk_mono (w_f_X9_pluck_17 h_3) (fun _ k => Fr_trans k_2 (Fr_mono fs_X9_pluck_17__X9_pluck k))
    · refine pk_ob1 (w_f_X9_keepsStep h_3) (fun h_5 k_3 => ?_)
      replace k_3 := Fr_trans k_2 (Fr_mono fs_X9_keepsStep__X9_pluck k_3)
      refine pk_ob2 (w_f_X9_ofGoose h_5 p1 1) (fun r_6 h_6 k_4 => ?_)
      replace k_4 := Fr_trans k_3 (Fr_mono fs_X9_ofGoose__X9_pluck k_4)
      refine pk_ob1 (w_f_X9_puts h_6 p1 1 (r_6 - 1)) (fun h_7 k_5 => ?_)
      replace k_5 := Fr_trans k_4 (Fr_mono fs_X9_puts__X9_pluck k_5)
      refine pk_ob2 (w_f_X9_ofGoose h_7 p1 1) (fun r_8 h_8 k_6 => ?_)
      replace k_6 := Fr_trans k_5 (Fr_mono fs_X9_ofGoose__X9_pluck k_6)
      exact pk_some k_6
def S_X9_name_19 : CL := []
theorem w_f_X9_name_19 (h : HS) : pk (f_X9_name_19 h) (fun a => Fr S_X9_name_19 h a.2) := by
  unfold f_X9_name_19
  exact pk_some (Fr_refl _ h)
def S_X9_name : CL := [(1, 0, 0)]
theorem fs_X9_isHome__X9_name : ∀ x ∈ S_X9_isHome, x ∈ S_X9_name := by decide
theorem fs_X9_name_19__X9_name : ∀ x ∈ S_X9_name_19, x ∈ S_X9_name := by decide
theorem fs_X9_ofGoose__X9_name : ∀ x ∈ S_X9_ofGoose, x ∈ S_X9_name := by decide
theorem fs_X9_keepsStep__X9_name : ∀ x ∈ S_X9_keepsStep, x ∈ S_X9_name := by decide
theorem fs_X9_puts__X9_name : ∀ x ∈ S_X9_puts, x ∈ S_X9_name := by decide
theorem w_f_X9_name (h : HS) (p1 : Int32) : pk (f_X9_name h p1) (fun a => Fr S_X9_name h a.2) := by
  unfold f_X9_name
  refine pk_ob2 (w_f_X9_isHome h p1) (fun r_1 h_1 k_1 => ?_)
  replace k_1 := Fr_trans (Fr_refl _ h) (Fr_mono fs_X9_isHome__X9_name k_1)
  refine pk_if (fun _ => ?_) (fun _ => ?_)
  · exact pk_mono (w_f_X9_name_19 h_1) (fun _ k => Fr_trans k_1 (Fr_mono fs_X9_name_19__X9_name k))
  · refine pk_ob2 (w_f_X9_ofGoose h_1 p1 8) (fun r_3 h_3 k_2 => ?_)
    replace k_2 := Fr_trans k_1 (Fr_mono fs_X9_ofGoose__X9_name k_2)
    refine pk_if (fun _ => ?_) (fun _ => ?_)
    · exact pk_mono (w_f_X9_name_19 h_3) (fun _ k => Fr_trans k_2 (Fr_mono fs_X9_name_19__X9_name k))
    · refine pk_ob1 (w_f_X9_keepsStep h_3) (fun h_5 k_3 => ?_)
      replace k_3 := Fr_trans k_2 (Fr_mono fs_X9_keepsStep__X9_name k_3)
      refine pk_ob1 (w_f_X9_puts h_5 p1 8 1) (fun h_6 k_4 => ?_)
      replace k_4 := Fr_trans k_3 (Fr_mono fs_X9_puts__X9_name k_4)
      exact pk_some k_4
def S_X9_marketTells_56 : CL := []
theorem w_f_X9_marketTells_56 (h : HS) (y0 : Int32) : pk (f_X9_marketTells_56 h y0) (fun a => Fr S_X9_marketTells_56 h a.2) := by
  unfold f_X9_marketTells_56
  exact pk_some (Fr_refl _ h)
def S_X9_marketTells : CL := [(1, 0, 39), (3, 0, 40)]
theorem fm_X9_marketTells_1_0_39 : (1, 0, 39) ∈ S_X9_marketTells := by decide
theorem fs_X9_ordersOf__X9_marketTells : ∀ x ∈ S_X9_ordersOf, x ∈ S_X9_marketTells := by decide
theorem fs_X9_marketTells_56__X9_marketTells : ∀ x ∈ S_X9_marketTells_56, x ∈ S_X9_marketTells := by decide
theorem fs_X9_names__X9_marketTells : ∀ x ∈ S_X9_names, x ∈ S_X9_marketTells := by decide
theorem fs_X9_saysOf__X9_marketTells : ∀ x ∈ S_X9_saysOf, x ∈ S_X9_marketTells := by decide
theorem w_f_X9_marketTells (h : HS) (p1 : Int32) (p2 : Int32) (p3 : Int32) (p4 : Int32) (p5 : Int32) (p6 : Int32) : pk (f_X9_marketTells h p1 p2 p3 p4 p5 p6) (fun a => Fr S_X9_marketTells h a.2) := by
  unfold f_X9_marketTells
  refine pk_chk (fun _ => ?_)
  refine pk_chk (fun _ => ?_)
  refine pk_ob2 (w_f_X9_ordersOf h p1) (fun r_3 h_3 k_1 => ?_)
  replace k_1 := Fr_trans (Fr_refl _ h) (Fr_mono fs_X9_ordersOf__X9_marketTells k_1)
  refine pk_if (fun _ => ?_) (fun _ => ?_)
  · refine pk_if (fun _ => ?_) (fun _ => ?_)
    · exact pk_mono (w_f_X9_marketTells_56 h_3 ((eA h 0 0) ((((10 + (3 * p5)) + 1)).toNatClampNeg))) (fun _ k => Fr_trans k_1 (Fr_mono fs_X9_marketTells_56__X9_marketTells k))
    · exact pk_mono (w_f_X9_marketTells_56 h_3 ((eA h 0 0) ((((10 + (3 * p5)) + 2)).toNatClampNeg))) (fun _ k => Fr_trans k_1 (Fr_mono fs_X9_marketTells_56__X9_marketTells k))
  · refine pk_ob1 (w_f_X9_names h_3 p2 p3 p4 p6) (fun h_5 k_2 => ?_)
    replace k_2 := Fr_trans k_1 (Fr_mono fs_X9_names__X9_marketTells k_2)
    refine pk_ob2 (w_f_X9_saysOf (sA (sA (sA h_5 0 39 (upd (eA h_5 0 39) 6 p5)) 0 39 (upd (upd (eA h_5 0 39) 6 p5) 7 ((eA h 0 0) ((((10 + (3 * p5)) + 1)).toNatClampNeg)))) 0 39 (upd (upd (upd (eA h_5 0 39) 6 p5) 7 ((eA h 0 0) ((((10 + (3 * p5)) + 1)).toNatClampNeg))) 8 ((eA h 0 0) ((((10 + (3 * p5)) + 2)).toNatClampNeg)))) r_3) (fun r_6 h_6 k_3 => ?_)
    replace k_3 := Fr_trans (Fr_sA fm_X9_marketTells_1_0_39 (Fr_sA fm_X9_marketTells_1_0_39 (Fr_sA fm_X9_marketTells_1_0_39 k_2))) (Fr_mono fs_X9_saysOf__X9_marketTells k_3)
    refine pk_obf (fun r_7 => ?_)
    exact pk_some k_3
def S_X9_marketOf : CL := [(1, 0, 39), (3, 0, 40)]
theorem fs_X9_ofGoose__X9_marketOf : ∀ x ∈ S_X9_ofGoose, x ∈ S_X9_marketOf := by decide
theorem fs_X9_marketTells__X9_marketOf : ∀ x ∈ S_X9_marketTells, x ∈ S_X9_marketOf := by decide
theorem w_f_X9_marketOf (h : HS) (p1 : Int32) (p2 : Int32) : pk (f_X9_marketOf h p1 p2) (fun a => Fr S_X9_marketOf h a.2) := by
  unfold f_X9_marketOf
  refine pk_ob2 (w_f_X9_ofGoose h p2 2) (fun r_1 h_1 k_1 => ?_)
  replace k_1 := Fr_trans (Fr_refl _ h) (Fr_mono fs_X9_ofGoose__X9_marketOf k_1)
  refine pk_ob2 (w_f_X9_ofGoose h_1 p2 3) (fun r_2 h_2 k_2 => ?_)
  replace k_2 := Fr_trans k_1 (Fr_mono fs_X9_ofGoose__X9_marketOf k_2)
  refine pk_ob2 (w_f_X9_ofGoose h_2 p2 5) (fun r_3 h_3 k_3 => ?_)
  replace k_3 := Fr_trans k_2 (Fr_mono fs_X9_ofGoose__X9_marketOf k_3)
  refine pk_ob2 (w_f_X9_ofGoose h_3 p2 6) (fun r_4 h_4 k_4 => ?_)
  replace k_4 := Fr_trans k_3 (Fr_mono fs_X9_ofGoose__X9_marketOf k_4)
  refine pk_ob2 (w_f_X9_marketTells h_4 p1 p2 r_1 r_2 r_3 r_4) (fun r_5 h_5 k_5 => ?_)
  replace k_5 := Fr_trans k_4 (Fr_mono fs_X9_marketTells__X9_marketOf k_5)
  exact pk_some k_5
def S_X9_isTrueBy_53 : CL := []
theorem w_f_X9_isTrueBy_53 (h : HS) (y0 : Int32) : pk (f_X9_isTrueBy_53 h y0) (fun a => Fr S_X9_isTrueBy_53 h a.2) := by
  unfold f_X9_isTrueBy_53
  refine pk_chk (fun _ => ?_)
  exact pk_some (Fr_refl _ h)
def S_X9_isTrueBy : CL := [(1, 0, 39), (3, 0, 40)]
theorem fm_X9_isTrueBy_1_0_39 : (1, 0, 39) ∈ S_X9_isTrueBy := by decide
theorem fs_X9_ordersOf__X9_isTrueBy : ∀ x ∈ S_X9_ordersOf, x ∈ S_X9_isTrueBy := by decide
theorem fs_X9_names__X9_isTrueBy : ∀ x ∈ S_X9_names, x ∈ S_X9_isTrueBy := by decide
theorem fs_X9_saysOf__X9_isTrueBy : ∀ x ∈ S_X9_saysOf, x ∈ S_X9_isTrueBy := by decide
theorem fs_X9_isTrueBy_53__X9_isTrueBy : ∀ x ∈ S_X9_isTrueBy_53, x ∈ S_X9_isTrueBy := by decide
theorem w_f_X9_isTrueBy (h : HS) (p1 : Int32) (p2 : Int32) (p3 : Int32) (p4 : Int32) : pk (f_X9_isTrueBy h p1 p2 p3 p4) (fun a => Fr S_X9_isTrueBy h a.2) := by
  unfold f_X9_isTrueBy
  refine pk_ob2 (w_f_X9_ordersOf h 3) (fun r_1 h_1 k_1 => ?_)
  replace k_1 := Fr_trans (Fr_refl _ h) (Fr_mono fs_X9_ordersOf__X9_isTrueBy k_1)
  refine pk_if (fun _ => ?_) (fun _ => ?_)
  · exact pk_some k_1
  · refine pk_ob1 (w_f_X9_names h_1 p1 p2 p3 ((eA h_1 0 0) 121)) (fun h_3 k_2 => ?_)
    replace k_2 := Fr_trans k_1 (Fr_mono fs_X9_names__X9_isTrueBy k_2)
    refine pk_ob2 (w_f_X9_saysOf (sA h_3 0 39 (upd (eA h_3 0 39) 2 p4)) r_1) (fun r_4 h_4 k_3 => ?_)
    replace k_3 := Fr_trans (Fr_sA fm_X9_isTrueBy_1_0_39 k_2) (Fr_mono fs_X9_saysOf__X9_isTrueBy k_3)
    refine pk_if (fun _ => ?_) (fun _ => ?_)
    · exact pk_mono (w_f_X9_isTrueBy_53 h_4 0) (fun _ k => Fr_trans k_3 (Fr_mono fs_X9_isTrueBy_53__X9_isTrueBy k))
    · exact pk_mono (w_f_X9_isTrueBy_53 h_4 1) (fun _ k => Fr_trans k_3 (Fr_mono fs_X9_isTrueBy_53__X9_isTrueBy k))
def S_X9_isTrue : CL := [(1, 0, 39), (3, 0, 40)]
theorem fs_X9_ofGoose__X9_isTrue : ∀ x ∈ S_X9_ofGoose, x ∈ S_X9_isTrue := by decide
theorem fs_X9_isTrueBy__X9_isTrue : ∀ x ∈ S_X9_isTrueBy, x ∈ S_X9_isTrue := by decide
theorem w_f_X9_isTrue (h : HS) (p1 : Int32) : pk (f_X9_isTrue h p1) (fun a => Fr S_X9_isTrue h a.2) := by
  unfold f_X9_isTrue
  refine pk_ob2 (w_f_X9_ofGoose h p1 2) (fun r_1 h_1 k_1 => ?_)
  replace k_1 := Fr_trans (Fr_refl _ h) (Fr_mono fs_X9_ofGoose__X9_isTrue k_1)
  refine pk_ob2 (w_f_X9_ofGoose h_1 p1 3) (fun r_2 h_2 k_2 => ?_)
  replace k_2 := Fr_trans k_1 (Fr_mono fs_X9_ofGoose__X9_isTrue k_2)
  refine pk_ob2 (w_f_X9_ofGoose h_2 p1 1) (fun r_3 h_3 k_3 => ?_)
  replace k_3 := Fr_trans k_2 (Fr_mono fs_X9_ofGoose__X9_isTrue k_3)
  refine pk_ob2 (w_f_X9_isTrueBy h_3 p1 r_1 r_2 r_3) (fun r_4 h_4 k_4 => ?_)
  replace k_4 := Fr_trans k_3 (Fr_mono fs_X9_isTrueBy__X9_isTrue k_4)
  refine pk_chk (fun _ => ?_)
  exact pk_some k_4
def S_X9_comesThere_50 : CL := [(1, 0, 0)]
theorem fs_X9_puts__X9_comesThere_50 : ∀ x ∈ S_X9_puts, x ∈ S_X9_comesThere_50 := by decide
theorem w_f_X9_comesThere_50 (h : HS) (x1 : Int32) (x2 : Int32) : pk (f_X9_comesThere_50 h x1 x2) (fun a => Fr S_X9_comesThere_50 h a) := by
  unfold f_X9_comesThere_50
  refine pk_ob1 (w_f_X9_puts h x1 4 x2) (fun h_9 k_1 => ?_)
  replace k_1 := Fr_trans (Fr_refl _ h) (Fr_mono fs_X9_puts__X9_comesThere_50 k_1)
  refine pk_ob1 (w_f_X9_puts h_9 x1 7 ((eA h_9 0 0) 121)) (fun h_10 k_2 => ?_)
  replace k_2 := Fr_trans k_1 (Fr_mono fs_X9_puts__X9_comesThere_50 k_2)
  exact pk_some k_2
def S_X9_comesThere_49 : CL := [(1, 0, 0)]
theorem fs_X9_comesThere_50__X9_comesThere_49 : ∀ x ∈ S_X9_comesThere_50, x ∈ S_X9_comesThere_49 := by decide
theorem w_f_X9_comesThere_49 (h : HS) (x1 : Int32) (y0 : Int32) : pk (f_X9_comesThere_49 h x1 y0) (fun a => Fr S_X9_comesThere_49 h a) := by
  unfold f_X9_comesThere_49
  exact pk_mono (w_f_X9_comesThere_50 h x1 y0) (fun _ k => Fr_trans (Fr_refl _ h) (Fr_mono fs_X9_comesThere_50__X9_comesThere_49 k))
def S_X9_comesThere : CL := [(1, 0, 0), (1, 0, 39), (3, 0, 40)]
theorem fs_X9_draw__X9_comesThere : ∀ x ∈ S_X9_draw, x ∈ S_X9_comesThere := by decide
theorem fs_X9_marketOf__X9_comesThere : ∀ x ∈ S_X9_marketOf, x ∈ S_X9_comesThere := by decide
theorem fs_X9_comesThere_50__X9_comesThere : ∀ x ∈ S_X9_comesThere_50, x ∈ S_X9_comesThere := by decide
theorem fs_X9_ofGoose__X9_comesThere : ∀ x ∈ S_X9_ofGoose, x ∈ S_X9_comesThere := by decide
theorem fs_X9_comesThere_49__X9_comesThere : ∀ x ∈ S_X9_comesThere_49, x ∈ S_X9_comesThere := by decide
theorem w_f_X9_comesThere (h : HS) (p1 : Int32) : pk (f_X9_comesThere h p1) (fun a => Fr S_X9_comesThere h a) := by
  unfold f_X9_comesThere
  refine pk_ob2 (w_f_X9_draw h) (fun r_1 h_1 k_1 => ?_)
  replace k_1 := Fr_trans (Fr_refl _ h) (Fr_mono fs_X9_draw__X9_comesThere k_1)
  refine pk_ob2 (w_f_X9_marketOf h_1 0 p1) (fun r_2 h_2 k_2 => ?_)
  replace k_2 := Fr_trans k_1 (Fr_mono fs_X9_marketOf__X9_comesThere k_2)
  refine pk_if (fun _ => ?_) (fun _ => ?_)
  · exact pk_mono (w_f_X9_comesThere_50 h_2 p1 2) (fun _ k => Fr_trans k_2 (Fr_mono fs_X9_comesThere_50__X9_comesThere k))
  · refine pk_ob2 (w_f_X9_ofGoose h_2 p1 2) (fun r_4 h_4 k_3 => ?_)
    replace k_3 := Fr_trans k_2 (Fr_mono fs_X9_ofGoose__X9_comesThere k_3)
    refine pk_if (fun _ => ?_) (fun _ => ?_)
    · exact pk_mono (w_f_X9_comesThere_50 h_4 p1 3) (fun _ k => Fr_trans k_3 (Fr_mono fs_X9_comesThere_50__X9_comesThere k))
    · refine pk_ob2 (w_f_X9_draw h_4) (fun r_6 h_6 k_4 => ?_)
      replace k_4 := Fr_trans k_3 (Fr_mono fs_X9_draw__X9_comesThere k_4)
      refine pk_ob2 (w_f_X9_marketOf h_6 1 p1) (fun r_7 h_7 k_5 => ?_)
      replace k_5 := Fr_trans k_4 (Fr_mono fs_X9_marketOf__X9_comesThere k_5)
      refine pk_if (fun _ => ?_) (fun _ => ?_)
      · exact pk_mono (w_f_X9_comesThere_49 h_7 p1 3) (fun _ k => Fr_trans k_5 (Fr_mono fs_X9_comesThere_49__X9_comesThere k))
      · exact pk_mono (w_f_X9_comesThere_49 h_7 p1 4) (fun _ k => Fr_trans k_5 (Fr_mono fs_X9_comesThere_49__X9_comesThere k))
def S_X9_hungers_132 : CL := []
theorem w_f_X9_hungers_132 (h : HS) : pk (f_X9_hungers_132 h) (fun a => Fr S_X9_hungers_132 h a) := by
  unfold f_X9_hungers_132
  exact pk_some (Fr_refl _ h)
def S_X9_hungers_100 : CL := [(1, 0, 0)]
theorem fm_X9_hungers_100_1_0_0 : (1, 0, 0) ∈ S_X9_hungers_100 := by decide
theorem fs_X9_hungers_132__X9_hungers_100 : ∀ x ∈ S_X9_hungers_132, x ∈ S_X9_hungers_100 := by decide
theorem fs_X9_puts__X9_hungers_100 : ∀ x ∈ S_X9_puts, x ∈ S_X9_hungers_100 := by decide
theorem w_f_X9_hungers_100 (h : HS) (x2 : Int32) (y0 : Int32) (y1 : Int32) : pk (f_X9_hungers_100 h x2 y0 y1) (fun a => Fr S_X9_hungers_100 h a) := by
  unfold f_X9_hungers_100
  refine pk_chk (fun _ => ?_)
  refine pk_if (fun _ => ?_) (fun _ => ?_)
  · exact pk_mono (w_f_X9_hungers_132 (sA h 0 0 (upd (eA h 0 0) ((y1).toNatClampNeg) y0))) (fun _ k => Fr_trans (Fr_sA fm_X9_hungers_100_1_0_0 (Fr_refl _ h)) (Fr_mono fs_X9_hungers_132__X9_hungers_100 k))
  · refine pk_ob1 (w_f_X9_puts (sA h 0 0 (upd (eA h 0 0) ((y1).toNatClampNeg) y0)) x2 4 5) (fun h_12 k_1 => ?_)
    replace k_1 := Fr_trans (Fr_sA fm_X9_hungers_100_1_0_0 (Fr_refl _ h)) (Fr_mono fs_X9_puts__X9_hungers_100 k_1)
    refine pk_ob1 (w_f_X9_puts h_12 x2 7 ((eA h_12 0 0) 121)) (fun h_13 k_2 => ?_)
    replace k_2 := Fr_trans k_1 (Fr_mono fs_X9_puts__X9_hungers_100 k_2)
    exact pk_mono (w_f_X9_hungers_132 h_13) (fun _ k => Fr_trans k_2 (Fr_mono fs_X9_hungers_132__X9_hungers_100 k))
def S_X9_hungers_74 : CL := [(1, 0, 0)]
theorem fs_X9_hungers_100__X9_hungers_74 : ∀ x ∈ S_X9_hungers_100, x ∈ S_X9_hungers_74 := by decide
theorem fs_X9_ofGoose__X9_hungers_74 : ∀ x ∈ S_X9_ofGoose, x ∈ S_X9_hungers_74 := by decide
theorem w_f_X9_hungers_74 (h : HS) (x2 : Int32) : pk (f_X9_hungers_74 h x2) (fun a => Fr S_X9_hungers_74 h a) := by
  unfold f_X9_hungers_74
  refine pk_if (fun _ => ?_) (fun _ => ?_)
  · exact pk_mono (w_f_X9_hungers_100 h x2 0 120) (fun _ k => Fr_trans (Fr_refl _ h) (Fr_mono fs_X9_hungers_100__X9_hungers_74 k))
  · refine pk_ob2 (w_f_X9_ofGoose h x2 0) (fun r_9 h_9 k_1 => ?_)
    replace k_1 := Fr_trans (Fr_refl _ h) (Fr_mono fs_X9_ofGoose__X9_hungers_74 k_1)
    exact pk_mono (w_f_X9_hungers_100 h_9 x2 r_9 120) (fun _ k => Fr_trans k_1 (Fr_mono fs_X9_hungers_100__X9_hungers_74 k))
def S_X9_hungers_38 : CL := [(1, 0, 0)]
theorem w_f_X9_hungers_68 (k38 : HS → Int32 → Option HS) (hk_k38 : ∀ (h : HS) (x0 : Int32), pk (k38 h x0) (fun a => Fr S_X9_hungers_38 h a)) (h : HS) (x2 : Int32) : pk (f_X9_hungers_68 k38 h x2) (fun a => Fr S_X9_hungers_38 h a) := by
  unfold f_X9_hungers_68
  exact pk_mono (hk_k38 h (x2 + 1)) (fun _ k => Fr_trans (Fr_refl _ h) k)
theorem fs_X9_hungers_74__X9_hungers_38 : ∀ x ∈ S_X9_hungers_74, x ∈ S_X9_hungers_38 := by decide
theorem fs_X9_ofGoose__X9_hungers_38 : ∀ x ∈ S_X9_ofGoose, x ∈ S_X9_hungers_38 := by decide
theorem w_f_X9_hungers_38  : ∀ (n : Nat) (h : HS) (x2 : Int32), pk (f_X9_hungers_38  n h x2) (fun a => Fr S_X9_hungers_38 h a) := by
  intro n
  induction n with
  | zero => intro h x2; exact pk_none
  | succ n ih =>
    intro h x2
    rw [f_X9_hungers_38_s]
    refine pk_if (fun _ => ?_) (fun _ => ?_)
    · exact pk_mono (w_f_X9_hungers_74 h x2) (fun _ k => Fr_trans (Fr_refl _ h) (Fr_mono fs_X9_hungers_74__X9_hungers_38 k))
    · refine pk_ob2 (w_f_X9_ofGoose h x2 4) (fun r_4 h_4 k_1 => ?_)
      replace k_1 := Fr_trans (Fr_refl _ h) (Fr_mono fs_X9_ofGoose__X9_hungers_38 k_1)
      refine pk_if (fun _ => ?_) (fun _ => ?_)
      · refine pk_ob2 (w_f_X9_ofGoose h_4 x2 8) (fun r_6 h_6 k_2 => ?_)
        replace k_2 := Fr_trans k_1 (Fr_mono fs_X9_ofGoose__X9_hungers_38 k_2)
        refine pk_if (fun _ => ?_) (fun _ => ?_)
        · exact pk_mono (w_f_X9_hungers_68 (f_X9_hungers_38 n) ih h_6 x2) (fun _ k => Fr_trans k_2 k)
        · exact pk_mono (w_f_X9_hungers_74 h_6 x2) (fun _ k => Fr_trans k_2 (Fr_mono fs_X9_hungers_74__X9_hungers_38 k))
      · exact pk_mono (w_f_X9_hungers_68 (f_X9_hungers_38 n) ih h_4 x2) (fun _ k => Fr_trans k_1 k)
def S_X9_hungers : CL := [(1, 0, 0)]
theorem fm_X9_hungers_1_0_0 : (1, 0, 0) ∈ S_X9_hungers := by decide
theorem fs_X9_geeseOf__X9_hungers : ∀ x ∈ S_X9_geeseOf, x ∈ S_X9_hungers := by decide
theorem fs_X9_hungers_38__X9_hungers : ∀ x ∈ S_X9_hungers_38, x ∈ S_X9_hungers := by decide
theorem w_f_X9_hungers (h : HS) : pk (f_X9_hungers h) (fun a => Fr S_X9_hungers h a) := by
  unfold f_X9_hungers
  refine pk_ob2 (w_f_X9_geeseOf h 0) (fun r_1 h_1 k_1 => ?_)
  replace k_1 := Fr_trans (Fr_refl _ h) (Fr_mono fs_X9_geeseOf__X9_hungers k_1)
  refine pk_if (fun _ => ?_) (fun _ => ?_)
  · exact pk_mono (w_f_X9_hungers_38 8589934592 h_1 0) (fun _ k => Fr_trans k_1 (Fr_mono fs_X9_hungers_38__X9_hungers k))
  · exact pk_some (Fr_sA fm_X9_hungers_1_0_0 k_1)
def S_X9_pass_25 : CL := []
theorem w_f_X9_pass_25 (h : HS) : pk (f_X9_pass_25 h) (fun a => Fr S_X9_pass_25 h a.2) := by
  unfold f_X9_pass_25
  exact pk_some (Fr_refl _ h)
def S_X9_pass_33 : CL := [(1, 0, 0), (1, 0, 39), (3, 0, 40)]
theorem w_f_X9_pass_93 (k33 : HS → Int32 → Int32 → Option (Int32 × HS)) (hk_k33 : ∀ (h : HS) (x0 : Int32) (x1 : Int32), pk (k33 h x0 x1) (fun a => Fr S_X9_pass_33 h a.2)) (k51 : HS → Int32 → Int32 → Int32 → Option (Int32 × HS)) (hk_k51 : ∀ (h : HS) (x0 : Int32) (x1 : Int32) (x2 : Int32), pk (k51 h x0 x1 x2) (fun a => Fr S_X9_pass_33 h a.2)) (h : HS) (x1 : Int32) (x2 : Int32) (x3 : Int32) : pk (f_X9_pass_93 k33 k51 h x1 x2 x3) (fun a => Fr S_X9_pass_33 h a.2) := by
  unfold f_X9_pass_93
  exact pk_mono (hk_k51 h x1 x2 (x3 + 1)) (fun _ k => Fr_trans (Fr_refl _ h) k)
theorem fs_X9_hungers__X9_pass_33 : ∀ x ∈ S_X9_hungers, x ∈ S_X9_pass_33 := by decide
theorem fs_X9_ofGoose__X9_pass_33 : ∀ x ∈ S_X9_ofGoose, x ∈ S_X9_pass_33 := by decide
theorem fs_X9_comesThere__X9_pass_33 : ∀ x ∈ S_X9_comesThere, x ∈ S_X9_pass_33 := by decide
theorem w_f_X9_pass_51 (k33 : HS → Int32 → Int32 → Option (Int32 × HS)) (hk_k33 : ∀ (h : HS) (x0 : Int32) (x1 : Int32), pk (k33 h x0 x1) (fun a => Fr S_X9_pass_33 h a.2)) : ∀ (n : Nat) (h : HS) (x1 : Int32) (x2 : Int32) (x3 : Int32), pk (f_X9_pass_51 k33 n h x1 x2 x3) (fun a => Fr S_X9_pass_33 h a.2) := by
  intro n
  induction n with
  | zero => intro h x1 x2 x3; exact pk_none
  | succ n ih =>
    intro h x1 x2 x3
    rw [f_X9_pass_51_s]
    refine pk_if (fun _ => ?_) (fun _ => ?_)
    · refine pk_ob1 (w_f_X9_hungers h) (fun h_7 k_1 => ?_)
      replace k_1 := Fr_trans (Fr_refl _ h) (Fr_mono fs_X9_hungers__X9_pass_33 k_1)
      exact pk_mono (hk_k33 h_7 x1 (x2 + 1)) (fun _ k => Fr_trans k_1 k)
    · refine pk_ob2 (w_f_X9_ofGoose h x3 4) (fun r_8 h_8 k_2 => ?_)
      replace k_2 := Fr_trans (Fr_refl _ h) (Fr_mono fs_X9_ofGoose__X9_pass_33 k_2)
      refine pk_if (fun _ => ?_) (fun _ => ?_)
      · refine pk_ob2 (w_f_X9_ofGoose h_8 x3 6) (fun r_10 h_10 k_3 => ?_)
        replace k_3 := Fr_trans k_2 (Fr_mono fs_X9_ofGoose__X9_pass_33 k_3)
        refine pk_if (fun _ => ?_) (fun _ => ?_)
        · refine pk_ob1 (w_f_X9_comesThere h_10 x3) (fun h_12 k_4 => ?_)
          replace k_4 := Fr_trans k_3 (Fr_mono fs_X9_comesThere__X9_pass_33 k_4)
          exact pk_mono (w_f_X9_pass_93 k33 hk_k33 (f_X9_pass_51 k33 n) ih h_12 x1 x2 x3) (fun _ k => Fr_trans k_4 k)
        · exact pk_mono (w_f_X9_pass_93 k33 hk_k33 (f_X9_pass_51 k33 n) ih h_10 x1 x2 x3) (fun _ k => Fr_trans k_3 k)
      · exact pk_mono (w_f_X9_pass_93 k33 hk_k33 (f_X9_pass_51 k33 n) ih h_8 x1 x2 x3) (fun _ k => Fr_trans k_2 k)
theorem fm_X9_pass_33_1_0_0 : (1, 0, 0) ∈ S_X9_pass_33 := by decide
theorem w_f_X9_pass_33  : ∀ (n : Nat) (h : HS) (x1 : Int32) (x2 : Int32), pk (f_X9_pass_33  n h x1 x2) (fun a => Fr S_X9_pass_33 h a.2) := by
  intro n
  induction n with
  | zero => intro h x1 x2; exact pk_none
  | succ n ih =>
    intro h x1 x2
    rw [f_X9_pass_33_s]
    refine pk_if (fun _ => ?_) (fun _ => ?_)
    · exact pk_some (Fr_refl _ h)
    · exact pk_mono (w_f_X9_pass_51 (f_X9_pass_33 n) ih 8589934592 (sA h 0 0 (upd (eA h 0 0) 121 (((eA h 0 0) 121) + 1))) x1 x2 0) (fun _ k => Fr_trans (Fr_sA fm_X9_pass_33_1_0_0 (Fr_refl _ h)) k)
def S_X9_pass : CL := [(1, 0, 0), (1, 0, 39), (3, 0, 40)]
theorem fs_X9_pass_25__X9_pass : ∀ x ∈ S_X9_pass_25, x ∈ S_X9_pass := by decide
theorem fs_X9_keepsStep__X9_pass : ∀ x ∈ S_X9_keepsStep, x ∈ S_X9_pass := by decide
theorem fs_X9_pass_33__X9_pass : ∀ x ∈ S_X9_pass_33, x ∈ S_X9_pass := by decide
theorem w_f_X9_pass (h : HS) (p1 : Int32) : pk (f_X9_pass h p1) (fun a => Fr S_X9_pass h a.2) := by
  unfold f_X9_pass
  refine pk_obf (fun r_1 => ?_)
  refine pk_if (fun _ => ?_) (fun _ => ?_)
  · exact pk_mono (w_f_X9_pass_25 h) (fun _ k => Fr_trans (Fr_refl _ h) (Fr_mono fs_X9_pass_25__X9_pass k))
  · refine pk_if (fun _ => ?_) (fun _ => ?_)
    · refine pk_ob1 (w_f_X9_keepsStep h) (fun h_4 k_1 => ?_)
      replace k_1 := Fr_trans (Fr_refl _ h) (Fr_mono fs_X9_keepsStep__X9_pass k_1)
      exact pk_mono (w_f_X9_pass_33 8589934592 h_4 p1 0) (fun _ k => Fr_trans k_1 (Fr_mono fs_X9_pass_33__X9_pass k))
    · exact pk_mono (w_f_X9_pass_25 h) (fun _ k => Fr_trans (Fr_refl _ h) (Fr_mono fs_X9_pass_25__X9_pass k))
def S_X9_played_21 : CL := [(1, 0, 0), (1, 0, 39), (3, 0, 40)]
theorem w_f_X9_played_154 (k21 : HS → Int32 → Int32 → Option (Int32 × HS)) (hk_k21 : ∀ (h : HS) (x0 : Int32) (x1 : Int32), pk (k21 h x0 x1) (fun a => Fr S_X9_played_21 h a.2)) (h : HS) (x1 : Int32) (x2 : Int32) (x4 : Int32) : pk (f_X9_played_154 k21 h x1 x2 x4) (fun a => Fr S_X9_played_21 h a.2) := by
  unfold f_X9_played_154
  refine pk_if (fun _ => ?_) (fun _ => ?_)
  · exact pk_some (Fr_refl _ h)
  · exact pk_mono (hk_k21 h x1 (x2 + 1)) (fun _ k => Fr_trans (Fr_refl _ h) k)
theorem fs_X9_fill__X9_played_21 : ∀ x ∈ S_X9_fill, x ∈ S_X9_played_21 := by decide
theorem fs_X9_send__X9_played_21 : ∀ x ∈ S_X9_send, x ∈ S_X9_played_21 := by decide
theorem fs_X9_fatten__X9_played_21 : ∀ x ∈ S_X9_fatten, x ∈ S_X9_played_21 := by decide
theorem fs_X9_pass__X9_played_21 : ∀ x ∈ S_X9_pass, x ∈ S_X9_played_21 := by decide
theorem w_f_X9_played_21  : ∀ (n : Nat) (h : HS) (x1 : Int32) (x2 : Int32), pk (f_X9_played_21  n h x1 x2) (fun a => Fr S_X9_played_21 h a.2) := by
  intro n
  induction n with
  | zero => intro h x1 x2; exact pk_none
  | succ n ih =>
    intro h x1 x2
    rw [f_X9_played_21_s]
    refine pk_chk (fun _ => ?_)
    refine pk_if (fun _ => ?_) (fun _ => ?_)
    · exact pk_some (Fr_refl _ h)
    · refine pk_chk (fun _ => ?_)
      refine pk_if (fun _ => ?_) (fun _ => ?_)
      · refine pk_chk (fun _ => ?_)
        refine pk_chk (fun _ => ?_)
        refine pk_chk (fun _ => ?_)
        refine pk_ob2 (w_f_X9_fill h ((eA h 0 9) ((((24 * x1) + x2)).toNatClampNeg)) ((eA h 0 10) ((((24 * x1) + x2)).toNatClampNeg)) ((eA h 0 11) ((((24 * x1) + x2)).toNatClampNeg))) (fun r_10 h_10 k_1 => ?_)
        replace k_1 := Fr_trans (Fr_refl _ h) (Fr_mono fs_X9_fill__X9_played_21 k_1)
        exact pk_mono (w_f_X9_played_154 (f_X9_played_21 n) ih h_10 x1 x2 r_10) (fun _ k => Fr_trans k_1 k)
      · refine pk_if (fun _ => ?_) (fun _ => ?_)
        · refine pk_chk (fun _ => ?_)
          refine pk_chk (fun _ => ?_)
          refine pk_ob2 (w_f_X9_send h ((eA h 0 9) ((((24 * x1) + x2)).toNatClampNeg)) ((eA h 0 10) ((((24 * x1) + x2)).toNatClampNeg))) (fun r_14 h_14 k_2 => ?_)
          replace k_2 := Fr_trans (Fr_refl _ h) (Fr_mono fs_X9_send__X9_played_21 k_2)
          exact pk_mono (w_f_X9_played_154 (f_X9_played_21 n) ih h_14 x1 x2 r_14) (fun _ k => Fr_trans k_2 k)
        · refine pk_if (fun _ => ?_) (fun _ => ?_)
          · refine pk_chk (fun _ => ?_)
            refine pk_ob2 (w_f_X9_fatten h ((eA h 0 9) ((((24 * x1) + x2)).toNatClampNeg))) (fun r_17 h_17 k_3 => ?_)
            replace k_3 := Fr_trans (Fr_refl _ h) (Fr_mono fs_X9_fatten__X9_played_21 k_3)
            exact pk_mono (w_f_X9_played_154 (f_X9_played_21 n) ih h_17 x1 x2 r_17) (fun _ k => Fr_trans k_3 k)
          · refine pk_if (fun _ => ?_) (fun _ => ?_)
            · refine pk_chk (fun _ => ?_)
              refine pk_ob2 (w_f_X9_pass h ((eA h 0 9) ((((24 * x1) + x2)).toNatClampNeg))) (fun r_20 h_20 k_4 => ?_)
              replace k_4 := Fr_trans (Fr_refl _ h) (Fr_mono fs_X9_pass__X9_played_21 k_4)
              exact pk_mono (w_f_X9_played_154 (f_X9_played_21 n) ih h_20 x1 x2 r_20) (fun _ k => Fr_trans k_4 k)
            · exact pk_mono (w_f_X9_played_154 (f_X9_played_21 n) ih h x1 x2 0) (fun _ k => Fr_trans (Fr_refl _ h) k)
def S_X9_played : CL := [(1, 0, 0), (1, 0, 39), (3, 0, 40)]
theorem fs_X9_played_21__X9_played : ∀ x ∈ S_X9_played_21, x ∈ S_X9_played := by decide
theorem w_f_X9_played (h : HS) (p1 : Int32) : pk (f_X9_played h p1) (fun a => Fr S_X9_played h a.2) := by
  unfold f_X9_played
  refine pk_obf (fun r_1 => ?_)
  refine pk_if (fun _ => ?_) (fun _ => ?_)
  · exact pk_some (Fr_refl _ h)
  · exact pk_mono (w_f_X9_played_21 8589934592 h p1 0) (fun _ k => Fr_trans (Fr_refl _ h) (Fr_mono fs_X9_played_21__X9_played k))
def S_X9_of_18 : CL := []
theorem w_f_X9_of_18 (h : HS) : pk (f_X9_of_18 h) (fun a => Fr S_X9_of_18 h a.2) := by
  unfold f_X9_of_18
  exact pk_some (Fr_refl _ h)
def S_X9_of_47 : CL := []
theorem w_f_X9_of_47 (h : HS) (y0 : Int32) : pk (f_X9_of_47 h y0) (fun a => Fr S_X9_of_47 h a.2) := by
  unfold f_X9_of_47
  exact pk_some (Fr_refl _ h)
def S_X9_of : CL := [(1, 0, 39), (3, 0, 40)]
theorem fs_X9_isGoose__X9_of : ∀ x ∈ S_X9_isGoose, x ∈ S_X9_of := by decide
theorem fs_X9_of_18__X9_of : ∀ x ∈ S_X9_of_18, x ∈ S_X9_of := by decide
theorem fs_X9_isTrue__X9_of : ∀ x ∈ S_X9_isTrue, x ∈ S_X9_of := by decide
theorem fs_X9_of_47__X9_of : ∀ x ∈ S_X9_of_47, x ∈ S_X9_of := by decide
theorem fs_X9_ofGoose__X9_of : ∀ x ∈ S_X9_ofGoose, x ∈ S_X9_of := by decide
theorem w_f_X9_of (h : HS) (p1 : Int32) (p2 : Int32) : pk (f_X9_of h p1 p2) (fun a => Fr S_X9_of h a.2) := by
  unfold f_X9_of
  refine pk_ob2 (w_f_X9_isGoose h p1) (fun r_1 h_1 k_1 => ?_)
  replace k_1 := Fr_trans (Fr_refl _ h) (Fr_mono fs_X9_isGoose__X9_of k_1)
  refine pk_if (fun _ => ?_) (fun _ => ?_)
  · exact pk_mono (w_f_X9_of_18 h_1) (fun _ k => Fr_trans k_1 (Fr_mono fs_X9_of_18__X9_of k))
  · refine pk_obf (fun r_3 => ?_)
    refine pk_if (fun _ => ?_) (fun _ => ?_)
    · exact pk_mono (w_f_X9_of_18 h_1) (fun _ k => Fr_trans k_1 (Fr_mono fs_X9_of_18__X9_of k))
    · refine pk_if (fun _ => ?_) (fun _ => ?_)
      · refine pk_ob2 (w_f_X9_isTrue h_1 p1) (fun r_6 h_6 k_2 => ?_)
        replace k_2 := Fr_trans k_1 (Fr_mono fs_X9_isTrue__X9_of k_2)
        refine pk_if (fun _ => ?_) (fun _ => ?_)
        · exact pk_mono (w_f_X9_of_47 h_6 0) (fun _ k => Fr_trans k_2 (Fr_mono fs_X9_of_47__X9_of k))
        · exact pk_mono (w_f_X9_of_47 h_6 1) (fun _ k => Fr_trans k_2 (Fr_mono fs_X9_of_47__X9_of k))
      · refine pk_ob2 (w_f_X9_ofGoose h_1 p1 p2) (fun r_8 h_8 k_3 => ?_)
        replace k_3 := Fr_trans k_1 (Fr_mono fs_X9_ofGoose__X9_of k_3)
        exact pk_some k_3
def S_X9_brought_51 : CL := []
theorem w_f_X9_brought_51 (h : HS) : pk (f_X9_brought_51 h) (fun a => Fr S_X9_brought_51 h a.2) := by
  unfold f_X9_brought_51
  exact pk_some (Fr_refl _ h)
def S_X9_brought_79 : CL := []
theorem w_f_X9_brought_79 (h : HS) (y0 : Int32) : pk (f_X9_brought_79 h y0) (fun a => Fr S_X9_brought_79 h a.2) := by
  unfold f_X9_brought_79
  exact pk_some (Fr_refl _ h)
def S_X9_brought_66 : CL := []
theorem fs_X9_ofGoose__X9_brought_66 : ∀ x ∈ S_X9_ofGoose, x ∈ S_X9_brought_66 := by decide
theorem fs_X9_brought_79__X9_brought_66 : ∀ x ∈ S_X9_brought_79, x ∈ S_X9_brought_66 := by decide
theorem w_f_X9_brought_66 (h : HS) (x1 : Int32) : pk (f_X9_brought_66 h x1) (fun a => Fr S_X9_brought_66 h a.2) := by
  unfold f_X9_brought_66
  refine pk_ob2 (w_f_X9_ofGoose h x1 3) (fun r_13 h_13 k_1 => ?_)
  replace k_1 := Fr_trans (Fr_refl _ h) (Fr_mono fs_X9_ofGoose__X9_brought_66 k_1)
  refine pk_obf (fun r_14 => ?_)
  exact pk_mono (w_f_X9_brought_79 h_13 r_14) (fun _ k => Fr_trans k_1 (Fr_mono fs_X9_brought_79__X9_brought_66 k))
def S_X9_brought_48 : CL := [(1, 0, 39), (3, 0, 40)]
theorem fs_X9_isTrue__X9_brought_48 : ∀ x ∈ S_X9_isTrue, x ∈ S_X9_brought_48 := by decide
theorem fs_X9_brought_79__X9_brought_48 : ∀ x ∈ S_X9_brought_79, x ∈ S_X9_brought_48 := by decide
theorem fs_X9_brought_66__X9_brought_48 : ∀ x ∈ S_X9_brought_66, x ∈ S_X9_brought_48 := by decide
theorem fs_X9_brought_51__X9_brought_48 : ∀ x ∈ S_X9_brought_51, x ∈ S_X9_brought_48 := by decide
theorem w_f_X9_brought_48 (h : HS) (x1 : Int32) (x4 : Int32) (y0 : Int32) (y1 : Int32) : pk (f_X9_brought_48 h x1 x4 y0 y1) (fun a => Fr S_X9_brought_48 h a.2) := by
  unfold f_X9_brought_48
  refine pk_if (fun _ => ?_) (fun _ => ?_)
  · refine pk_if (fun _ => ?_) (fun _ => ?_)
    · refine pk_ob2 (w_f_X9_isTrue h x1) (fun r_11 h_11 k_1 => ?_)
      replace k_1 := Fr_trans (Fr_refl _ h) (Fr_mono fs_X9_isTrue__X9_brought_48 k_1)
      refine pk_if (fun _ => ?_) (fun _ => ?_)
      · exact pk_mono (w_f_X9_brought_79 h_11 0) (fun _ k => Fr_trans k_1 (Fr_mono fs_X9_brought_79__X9_brought_48 k))
      · exact pk_mono (w_f_X9_brought_66 h_11 x1) (fun _ k => Fr_trans k_1 (Fr_mono fs_X9_brought_66__X9_brought_48 k))
    · exact pk_mono (w_f_X9_brought_66 h x1) (fun _ k => Fr_trans (Fr_refl _ h) (Fr_mono fs_X9_brought_66__X9_brought_48 k))
  · exact pk_mono (w_f_X9_brought_51 h) (fun _ k => Fr_trans (Fr_refl _ h) (Fr_mono fs_X9_brought_51__X9_brought_48 k))
def S_X9_brought : CL := [(1, 0, 39), (3, 0, 40)]
theorem fs_X9_ofGoose__X9_brought : ∀ x ∈ S_X9_ofGoose, x ∈ S_X9_brought := by decide
theorem fs_X9_brought_51__X9_brought : ∀ x ∈ S_X9_brought_51, x ∈ S_X9_brought := by decide
theorem fs_X9_brought_48__X9_brought : ∀ x ∈ S_X9_brought_48, x ∈ S_X9_brought := by decide
theorem w_f_X9_brought (h : HS) (p1 : Int32) (p2 : Int32) (p3 : Int32) (p4 : Int32) : pk (f_X9_brought h p1 p2 p3 p4) (fun a => Fr S_X9_brought h a.2) := by
  unfold f_X9_brought
  refine pk_ob2 (w_f_X9_ofGoose h p1 2) (fun r_1 h_1 k_1 => ?_)
  replace k_1 := Fr_trans (Fr_refl _ h) (Fr_mono fs_X9_ofGoose__X9_brought k_1)
  refine pk_if (fun _ => ?_) (fun _ => ?_)
  · refine pk_ob2 (w_f_X9_ofGoose h_1 p1 7) (fun r_3 h_3 k_2 => ?_)
    replace k_2 := Fr_trans k_1 (Fr_mono fs_X9_ofGoose__X9_brought k_2)
    refine pk_if (fun _ => ?_) (fun _ => ?_)
    · exact pk_mono (w_f_X9_brought_51 h_3) (fun _ k => Fr_trans k_2 (Fr_mono fs_X9_brought_51__X9_brought k))
    · refine pk_ob2 (w_f_X9_ofGoose h_3 p1 7) (fun r_5 h_5 k_3 => ?_)
      replace k_3 := Fr_trans k_2 (Fr_mono fs_X9_ofGoose__X9_brought k_3)
      refine pk_if (fun _ => ?_) (fun _ => ?_)
      · exact pk_mono (w_f_X9_brought_51 h_5) (fun _ k => Fr_trans k_3 (Fr_mono fs_X9_brought_51__X9_brought k))
      · refine pk_ob2 (w_f_X9_ofGoose h_5 p1 4) (fun r_7 h_7 k_4 => ?_)
        replace k_4 := Fr_trans k_3 (Fr_mono fs_X9_ofGoose__X9_brought k_4)
        refine pk_if (fun _ => ?_) (fun _ => ?_)
        · exact pk_mono (w_f_X9_brought_48 h_7 p1 p4 2 r_7) (fun _ k => Fr_trans k_4 (Fr_mono fs_X9_brought_48__X9_brought k))
        · exact pk_mono (w_f_X9_brought_48 h_7 p1 p4 4 r_7) (fun _ k => Fr_trans k_4 (Fr_mono fs_X9_brought_48__X9_brought k))
  · exact pk_mono (w_f_X9_brought_51 h_1) (fun _ k => Fr_trans k_1 (Fr_mono fs_X9_brought_51__X9_brought k))
def S_X9_knownBy_6 : CL := [(1, 0, 39), (3, 0, 40)]
theorem fs_X9_brought__X9_knownBy_6 : ∀ x ∈ S_X9_brought, x ∈ S_X9_knownBy_6 := by decide
theorem w_f_X9_knownBy_6  : ∀ (n : Nat) (h : HS) (x1 : Int32) (x2 : Int32) (x3 : Int32) (x4 : Int32) (x5 : Int32), pk (f_X9_knownBy_6  n h x1 x2 x3 x4 x5) (fun a => Fr S_X9_knownBy_6 h a.2) := by
  intro n
  induction n with
  | zero => intro h x1 x2 x3 x4 x5; exact pk_none
  | succ n ih =>
    intro h x1 x2 x3 x4 x5
    rw [f_X9_knownBy_6_s]
    refine pk_if (fun _ => ?_) (fun _ => ?_)
    · exact pk_some (Fr_refl _ h)
    · refine pk_ob2 (w_f_X9_brought h x5 x1 x2 x3) (fun r_2 h_2 k_1 => ?_)
      replace k_1 := Fr_trans (Fr_refl _ h) (Fr_mono fs_X9_brought__X9_knownBy_6 k_1)
      exact pk_mono (ih h_2 x1 x2 x3 (x4 ||| r_2) (x5 + 1)) (fun _ k => Fr_trans k_1 k)
def S_X9_knownBy : CL := [(1, 0, 39), (3, 0, 40)]
theorem fs_X9_knownBy_6__X9_knownBy : ∀ x ∈ S_X9_knownBy_6, x ∈ S_X9_knownBy := by decide
theorem w_f_X9_knownBy (h : HS) (p1 : Int32) (p2 : Int32) (p3 : Int32) : pk (f_X9_knownBy h p1 p2 p3) (fun a => Fr S_X9_knownBy h a.2) := by
  unfold f_X9_knownBy
  exact pk_mono (w_f_X9_knownBy_6 8589934592 h p1 p2 p3 0 0) (fun _ k => Fr_trans (Fr_refl _ h) (Fr_mono fs_X9_knownBy_6__X9_knownBy k))
def S_X9_known_18 : CL := []
theorem w_f_X9_known_18 (h : HS) : pk (f_X9_known_18 h) (fun a => Fr S_X9_known_18 h a.2) := by
  unfold f_X9_known_18
  exact pk_some (Fr_refl _ h)
def S_X9_known_52 : CL := []
theorem w_f_X9_known_52 (h : HS) (y0 : Int32) (y1 : Int32) : pk (f_X9_known_52 h y0 y1) (fun a => Fr S_X9_known_52 h a.2) := by
  unfold f_X9_known_52
  exact pk_some (Fr_refl _ h)
def S_X9_known_36 : CL := [(1, 0, 39), (3, 0, 40)]
theorem fs_X9_knownBy__X9_known_36 : ∀ x ∈ S_X9_knownBy, x ∈ S_X9_known_36 := by decide
theorem fs_X9_known_52__X9_known_36 : ∀ x ∈ S_X9_known_52, x ∈ S_X9_known_36 := by decide
theorem w_f_X9_known_36 (h : HS) (x1 : Int32) (x2 : Int32) (y0 : Int32) : pk (f_X9_known_36 h x1 x2 y0) (fun a => Fr S_X9_known_36 h a.2) := by
  unfold f_X9_known_36
  refine pk_ob2 (w_f_X9_knownBy h x1 x2 1) (fun r_7 h_7 k_1 => ?_)
  replace k_1 := Fr_trans (Fr_refl _ h) (Fr_mono fs_X9_knownBy__X9_known_36 k_1)
  refine pk_if (fun _ => ?_) (fun _ => ?_)
  · exact pk_mono (w_f_X9_known_52 h_7 2 y0) (fun _ k => Fr_trans k_1 (Fr_mono fs_X9_known_52__X9_known_36 k))
  · exact pk_mono (w_f_X9_known_52 h_7 0 y0) (fun _ k => Fr_trans k_1 (Fr_mono fs_X9_known_52__X9_known_36 k))
def S_X9_known : CL := [(1, 0, 39), (3, 0, 40)]
theorem fs_X9_known_18__X9_known : ∀ x ∈ S_X9_known_18, x ∈ S_X9_known := by decide
theorem fs_X9_knownBy__X9_known : ∀ x ∈ S_X9_knownBy, x ∈ S_X9_known := by decide
theorem fs_X9_known_36__X9_known : ∀ x ∈ S_X9_known_36, x ∈ S_X9_known := by decide
theorem w_f_X9_known (h : HS) (p1 : Int32) (p2 : Int32) : pk (f_X9_known h p1 p2) (fun a => Fr S_X9_known h a.2) := by
  unfold f_X9_known
  refine pk_obf (fun r_1 => ?_)
  refine pk_if (fun _ => ?_) (fun _ => ?_)
  · exact pk_mono (w_f_X9_known_18 h) (fun _ k => Fr_trans (Fr_refl _ h) (Fr_mono fs_X9_known_18__X9_known k))
  · refine pk_obf (fun r_3 => ?_)
    refine pk_if (fun _ => ?_) (fun _ => ?_)
    · exact pk_mono (w_f_X9_known_18 h) (fun _ k => Fr_trans (Fr_refl _ h) (Fr_mono fs_X9_known_18__X9_known k))
    · refine pk_ob2 (w_f_X9_knownBy h p1 p2 0) (fun r_5 h_5 k_1 => ?_)
      replace k_1 := Fr_trans (Fr_refl _ h) (Fr_mono fs_X9_knownBy__X9_known k_1)
      refine pk_if (fun _ => ?_) (fun _ => ?_)
      · exact pk_mono (w_f_X9_known_36 h_5 p1 p2 1) (fun _ k => Fr_trans k_1 (Fr_mono fs_X9_known_36__X9_known k))
      · exact pk_mono (w_f_X9_known_36 h_5 p1 p2 0) (fun _ k => Fr_trans k_1 (Fr_mono fs_X9_known_36__X9_known k))
def S_X9_led_14 : CL := [(1, 0, 39), (3, 0, 40)]
theorem w_f_X9_led_70 (k14 : HS → Int32 → Int32 → Int32 → Int32 → Option (Int32 × HS)) (hk_k14 : ∀ (h : HS) (x0 : Int32) (x1 : Int32) (x2 : Int32) (x3 : Int32), pk (k14 h x0 x1 x2 x3) (fun a => Fr S_X9_led_14 h a.2)) (k25 : HS → Int32 → Int32 → Int32 → Int32 → Int32 → Option (Int32 × HS)) (hk_k25 : ∀ (h : HS) (x0 : Int32) (x1 : Int32) (x2 : Int32) (x3 : Int32) (x4 : Int32), pk (k25 h x0 x1 x2 x3 x4) (fun a => Fr S_X9_led_14 h a.2)) (h : HS) (x1 : Int32) (x2 : Int32) (x3 : Int32) (x4 : Int32) (x5 : Int32) : pk (f_X9_led_70 k14 k25 h x1 x2 x3 x4 x5) (fun a => Fr S_X9_led_14 h a.2) := by
  unfold f_X9_led_70
  exact pk_mono (hk_k25 h x1 x2 x3 x4 (x5 + 1)) (fun _ k => Fr_trans (Fr_refl _ h) k)
theorem fs_X9_ofGoose__X9_led_14 : ∀ x ∈ S_X9_ofGoose, x ∈ S_X9_led_14 := by decide
theorem fs_X9_brought__X9_led_14 : ∀ x ∈ S_X9_brought, x ∈ S_X9_led_14 := by decide
theorem w_f_X9_led_25 (k14 : HS → Int32 → Int32 → Int32 → Int32 → Option (Int32 × HS)) (hk_k14 : ∀ (h : HS) (x0 : Int32) (x1 : Int32) (x2 : Int32) (x3 : Int32), pk (k14 h x0 x1 x2 x3) (fun a => Fr S_X9_led_14 h a.2)) : ∀ (n : Nat) (h : HS) (x1 : Int32) (x2 : Int32) (x3 : Int32) (x4 : Int32) (x5 : Int32), pk (f_X9_led_25 k14 n h x1 x2 x3 x4 x5) (fun a => Fr S_X9_led_14 h a.2) := by
  intro n
  induction n with
  | zero => intro h x1 x2 x3 x4 x5; exact pk_none
  | succ n ih =>
    intro h x1 x2 x3 x4 x5
    rw [f_X9_led_25_s]
    refine pk_if (fun _ => ?_) (fun _ => ?_)
    · exact pk_mono (hk_k14 h x1 x2 x3 (x4 + 1)) (fun _ k => Fr_trans (Fr_refl _ h) k)
    · refine pk_ob2 (w_f_X9_ofGoose h x5 7) (fun r_5 h_5 k_1 => ?_)
      replace k_1 := Fr_trans (Fr_refl _ h) (Fr_mono fs_X9_ofGoose__X9_led_14 k_1)
      refine pk_if (fun _ => ?_) (fun _ => ?_)
      · refine pk_ob2 (w_f_X9_brought h_5 x5 x1 x4 x2) (fun r_7 h_7 k_2 => ?_)
        replace k_2 := Fr_trans k_1 (Fr_mono fs_X9_brought__X9_led_14 k_2)
        refine pk_if (fun _ => ?_) (fun _ => ?_)
        · exact pk_some k_2
        · exact pk_mono (w_f_X9_led_70 k14 hk_k14 (f_X9_led_25 k14 n) ih h_7 x1 x2 (x3 ||| r_7) x4 x5) (fun _ k => Fr_trans k_2 k)
      · exact pk_mono (w_f_X9_led_70 k14 hk_k14 (f_X9_led_25 k14 n) ih h_5 x1 x2 x3 x4 x5) (fun _ k => Fr_trans k_1 k)
theorem w_f_X9_led_14  : ∀ (n : Nat) (h : HS) (x1 : Int32) (x2 : Int32) (x3 : Int32) (x4 : Int32), pk (f_X9_led_14  n h x1 x2 x3 x4) (fun a => Fr S_X9_led_14 h a.2) := by
  intro n
  induction n with
  | zero => intro h x1 x2 x3 x4; exact pk_none
  | succ n ih =>
    intro h x1 x2 x3 x4
    rw [f_X9_led_14_s]
    refine pk_if (fun _ => ?_) (fun _ => ?_)
    · exact pk_some (Fr_refl _ h)
    · exact pk_mono (w_f_X9_led_25 (f_X9_led_14 n) ih 8589934592 h x1 x2 x3 x4 0) (fun _ k => Fr_trans (Fr_refl _ h) k)
def S_X9_led : CL := [(1, 0, 39), (3, 0, 40)]
theorem fs_X9_led_14__X9_led : ∀ x ∈ S_X9_led_14, x ∈ S_X9_led := by decide
theorem w_f_X9_led (h : HS) (p1 : Int32) (p2 : Int32) : pk (f_X9_led h p1 p2) (fun a => Fr S_X9_led h a.2) := by
  unfold f_X9_led
  refine pk_obf (fun r_1 => ?_)
  refine pk_if (fun _ => ?_) (fun _ => ?_)
  · exact pk_some (Fr_refl _ h)
  · exact pk_mono (w_f_X9_led_14 8589934592 h p1 p2 0 0) (fun _ k => Fr_trans (Fr_refl _ h) (Fr_mono fs_X9_led_14__X9_led k))
def S_X9_answer_40 : CL := []
theorem w_f_X9_answer_40 (h : HS) (y0 : Int32) : pk (f_X9_answer_40 h y0) (fun a => Fr S_X9_answer_40 h a.2) := by
  unfold f_X9_answer_40
  exact pk_some (Fr_refl _ h)
def S_X9_answer : CL := [(1, 0, 39), (3, 0, 40)]
theorem fs_X9_led__X9_answer : ∀ x ∈ S_X9_led, x ∈ S_X9_answer := by decide
theorem fs_X9_answer_40__X9_answer : ∀ x ∈ S_X9_answer_40, x ∈ S_X9_answer := by decide
theorem fs_X9_ofGoose__X9_answer : ∀ x ∈ S_X9_ofGoose, x ∈ S_X9_answer := by decide
theorem w_f_X9_answer (h : HS) (p1 : Int32) : pk (f_X9_answer h p1) (fun a => Fr S_X9_answer h a.2) := by
  unfold f_X9_answer
  refine pk_ob2 (w_f_X9_led h p1 0) (fun r_1 h_1 k_1 => ?_)
  replace k_1 := Fr_trans (Fr_refl _ h) (Fr_mono fs_X9_led__X9_answer k_1)
  refine pk_if (fun _ => ?_) (fun _ => ?_)
  · exact pk_mono (w_f_X9_answer_40 h_1 (-1)) (fun _ k => Fr_trans k_1 (Fr_mono fs_X9_answer_40__X9_answer k))
  · refine pk_ob2 (w_f_X9_ofGoose h_1 r_1 7) (fun r_3 h_3 k_2 => ?_)
    replace k_2 := Fr_trans k_1 (Fr_mono fs_X9_ofGoose__X9_answer k_2)
    refine pk_ob2 (w_f_X9_ofGoose h_3 r_1 5) (fun r_4 h_4 k_3 => ?_)
    replace k_3 := Fr_trans k_2 (Fr_mono fs_X9_ofGoose__X9_answer k_3)
    refine pk_chk (fun _ => ?_)
    exact pk_mono (w_f_X9_answer_40 h_4 (r_3 + ((eA h_4 0 0) (((10 + (3 * r_4))).toNatClampNeg)))) (fun _ k => Fr_trans k_3 (Fr_mono fs_X9_answer_40__X9_answer k))
def S_X9_plucks_12 : CL := [(1, 0, 39), (3, 0, 40)]
theorem fs_X9_ofGoose__X9_plucks_12 : ∀ x ∈ S_X9_ofGoose, x ∈ S_X9_plucks_12 := by decide
theorem fs_X9_isTrueBy__X9_plucks_12 : ∀ x ∈ S_X9_isTrueBy, x ∈ S_X9_plucks_12 := by decide
theorem w_f_X9_plucks_12  : ∀ (n : Nat) (h : HS) (x1 : Int32) (x2 : Int32), pk (f_X9_plucks_12  n h x1 x2) (fun a => Fr S_X9_plucks_12 h a.2) := by
  intro n
  induction n with
  | zero => intro h x1 x2; exact pk_none
  | succ n ih =>
    intro h x1 x2
    rw [f_X9_plucks_12_s]
    refine pk_ob2 (w_f_X9_ofGoose h x1 1) (fun r_3 h_3 k_1 => ?_)
    replace k_1 := Fr_trans (Fr_refl _ h) (Fr_mono fs_X9_ofGoose__X9_plucks_12 k_1)
    refine pk_if (fun _ => ?_) (fun _ => ?_)
    · exact pk_some k_1
    · refine pk_ob2 (w_f_X9_ofGoose h_3 x1 2) (fun r_5 h_5 k_2 => ?_)
      replace k_2 := Fr_trans k_1 (Fr_mono fs_X9_ofGoose__X9_plucks_12 k_2)
      refine pk_ob2 (w_f_X9_ofGoose h_5 x1 3) (fun r_6 h_6 k_3 => ?_)
      replace k_3 := Fr_trans k_2 (Fr_mono fs_X9_ofGoose__X9_plucks_12 k_3)
      refine pk_ob2 (w_f_X9_ofGoose h_6 x1 1) (fun r_7 h_7 k_4 => ?_)
      replace k_4 := Fr_trans k_3 (Fr_mono fs_X9_ofGoose__X9_plucks_12 k_4)
      refine pk_ob2 (w_f_X9_isTrueBy h_7 x1 r_5 r_6 (r_7 - x2)) (fun r_8 h_8 k_5 => ?_)
      replace k_5 := Fr_trans k_4 (Fr_mono fs_X9_isTrueBy__X9_plucks_12 k_5)
      refine pk_if (fun _ => ?_) (fun _ => ?_)
      · exact pk_mono (ih h_8 x1 (x2 + 1)) (fun _ k => Fr_trans k_5 k)
      · exact pk_some k_5
def S_X9_plucks : CL := [(1, 0, 39), (3, 0, 40)]
theorem fs_X9_isGoose__X9_plucks : ∀ x ∈ S_X9_isGoose, x ∈ S_X9_plucks := by decide
theorem fs_X9_plucks_12__X9_plucks : ∀ x ∈ S_X9_plucks_12, x ∈ S_X9_plucks := by decide
theorem w_f_X9_plucks (h : HS) (p1 : Int32) : pk (f_X9_plucks h p1) (fun a => Fr S_X9_plucks h a.2) := by
  unfold f_X9_plucks
  refine pk_ob2 (w_f_X9_isGoose h p1) (fun r_1 h_1 k_1 => ?_)
  replace k_1 := Fr_trans (Fr_refl _ h) (Fr_mono fs_X9_isGoose__X9_plucks k_1)
  refine pk_if (fun _ => ?_) (fun _ => ?_)
  · exact pk_some k_1
  · exact pk_mono (w_f_X9_plucks_12 8589934592 h_1 p1 0) (fun _ k => Fr_trans k_1 (Fr_mono fs_X9_plucks_12__X9_plucks k))
def S_X9_startsMany_2 : CL := [(3, 0, 41)]
theorem fm_X9_startsMany_2_3_0_41 : (3, 0, 41) ∈ S_X9_startsMany_2 := by decide
theorem w_f_X9_startsMany_27 (k2 : HS → Int32 → Int32 → Int32 → Option HS) (hk_k2 : ∀ (h : HS) (x0 : Int32) (x1 : Int32) (x2 : Int32), pk (k2 h x0 x1 x2) (fun a => Fr S_X9_startsMany_2 h a)) (h : HS) (x1 : Int32) (x2 : Int32) (x3 : Int32) (y0 : Int64) (y1 : Int32) : pk (f_X9_startsMany_27 k2 h x1 x2 x3 y0 y1) (fun a => Fr S_X9_startsMany_2 h a) := by
  unfold f_X9_startsMany_27
  refine pk_chk (fun _ => ?_)
  exact pk_mono (hk_k2 (sJ h 0 41 (vp_updL (eJ h 0 41) ((y1).toNatClampNeg) y0)) x1 x2 (x3 + 1)) (fun _ k => Fr_trans (Fr_sJ fm_X9_startsMany_2_3_0_41 (Fr_refl _ h)) k)
theorem w_f_X9_startsMany_2  : ∀ (n : Nat) (h : HS) (x1 : Int32) (x2 : Int32) (x3 : Int32), pk (f_X9_startsMany_2  n h x1 x2 x3) (fun a => Fr S_X9_startsMany_2 h a) := by
  intro n
  induction n with
  | zero => intro h x1 x2 x3; exact pk_none
  | succ n ih =>
    intro h x1 x2 x3
    rw [f_X9_startsMany_2_s]
    refine pk_if (fun _ => ?_) (fun _ => ?_)
    · exact pk_some (Fr_refl _ h)
    · refine pk_if (fun _ => ?_) (fun _ => ?_)
      · exact pk_mono (w_f_X9_startsMany_27 (f_X9_startsMany_2 n) ih h x1 x2 x3 1 x3) (fun _ k => Fr_trans (Fr_refl _ h) k)
      · exact pk_mono (w_f_X9_startsMany_27 (f_X9_startsMany_2 n) ih h x1 x2 x3 0 x3) (fun _ k => Fr_trans (Fr_refl _ h) k)
def S_X9_startsMany : CL := [(3, 0, 41)]
theorem fs_X9_startsMany_2__X9_startsMany : ∀ x ∈ S_X9_startsMany_2, x ∈ S_X9_startsMany := by decide
theorem w_f_X9_startsMany (h : HS) (p1 : Int32) (p2 : Int32) : pk (f_X9_startsMany h p1 p2) (fun a => Fr S_X9_startsMany h a) := by
  unfold f_X9_startsMany
  exact pk_mono (w_f_X9_startsMany_2 8589934592 h p1 p2 0) (fun _ k => Fr_trans (Fr_refl _ h) (Fr_mono fs_X9_startsMany_2__X9_startsMany k))
def S_X9_comesMany_164 : CL := [(3, 0, 41)]
theorem fm_X9_comesMany_164_3_0_41 : (3, 0, 41) ∈ S_X9_comesMany_164 := by decide
theorem w_f_X9_comesMany_164  : ∀ (n : Nat) (h : HS) (x5 : Int32), pk (f_X9_comesMany_164  n h x5) (fun a => Fr S_X9_comesMany_164 h a) := by
  intro n
  induction n with
  | zero => intro h x5; exact pk_none
  | succ n ih =>
    intro h x5
    rw [f_X9_comesMany_164_s]
    refine pk_if (fun _ => ?_) (fun _ => ?_)
    · exact pk_some (Fr_refl _ h)
    · refine pk_chk (fun _ => ?_)
      refine pk_chk (fun _ => ?_)
      exact pk_mono (ih (sJ h 0 41 (vp_updL (eJ h 0 41) ((x5).toNatClampNeg) ((eJ h 0 42) ((x5).toNatClampNeg)))) (x5 + 1)) (fun _ k => Fr_trans (Fr_sJ fm_X9_comesMany_164_3_0_41 (Fr_refl _ h)) k)
def S_X9_comesMany_27 : CL := [(3, 0, 41), (3, 0, 42)]
theorem fm_X9_comesMany_27_3_0_42 : (3, 0, 42) ∈ S_X9_comesMany_27 := by decide
theorem w_f_X9_comesMany_51 (k27 : HS → Int32 → Int32 → Int32 → Int32 → Int32 → Option HS) (hk_k27 : ∀ (h : HS) (x0 : Int32) (x1 : Int32) (x2 : Int32) (x3 : Int32) (x4 : Int32), pk (k27 h x0 x1 x2 x3 x4) (fun a => Fr S_X9_comesMany_27 h a)) (h : HS) (x1 : Int32) (x2 : Int32) (x3 : Int32) (x4 : Int32) (x5 : Int32) (y0 : Int32) (y1 : Int32) : pk (f_X9_comesMany_51 k27 h x1 x2 x3 x4 x5 y0 y1) (fun a => Fr S_X9_comesMany_27 h a) := by
  unfold f_X9_comesMany_51
  refine pk_obf (fun r_9 => ?_)
  refine pk_chk (fun _ => ?_)
  refine pk_chk (fun _ => ?_)
  refine pk_chk (fun _ => ?_)
  refine pk_chk (fun _ => ?_)
  refine pk_chk (fun _ => ?_)
  refine pk_chk (fun _ => ?_)
  refine pk_chk (fun _ => ?_)
  refine pk_chk (fun _ => ?_)
  refine pk_chk (fun _ => ?_)
  exact pk_mono (hk_k27 (sJ (sJ (sJ h 0 42 (vp_updL (eJ h 0 42) (((((x5 / 4) * 4) + (y1 ||| y0))).toNatClampNeg) (((eJ h 0 42) (((((x5 / 4) * 4) + (y1 ||| y0))).toNatClampNeg)) + ((((eJ h 0 41) ((x5).toNatClampNeg)) * (((10 - x1)).toInt64)) * 10)))) 0 42 (vp_updL (vp_updL (eJ h 0 42) (((((x5 / 4) * 4) + (y1 ||| y0))).toNatClampNeg) (((eJ h 0 42) (((((x5 / 4) * 4) + (y1 ||| y0))).toNatClampNeg)) + ((((eJ h 0 41) ((x5).toNatClampNeg)) * (((10 - x1)).toInt64)) * 10))) ((x5).toNatClampNeg) (((vp_updL (eJ h 0 42) (((((x5 / 4) * 4) + (y1 ||| y0))).toNatClampNeg) (((eJ h 0 42) (((((x5 / 4) * 4) + (y1 ||| y0))).toNatClampNeg)) + ((((eJ h 0 41) ((x5).toNatClampNeg)) * (((10 - x1)).toInt64)) * 10))) ((x5).toNatClampNeg)) + ((((eJ h 0 41) ((x5).toNatClampNeg)) * ((x1).toInt64)) * (((10 - x2)).toInt64))))) 0 42 (vp_updL (vp_updL (vp_updL (eJ h 0 42) (((((x5 / 4) * 4) + (y1 ||| y0))).toNatClampNeg) (((eJ h 0 42) (((((x5 / 4) * 4) + (y1 ||| y0))).toNatClampNeg)) + ((((eJ h 0 41) ((x5).toNatClampNeg)) * (((10 - x1)).toInt64)) * 10))) ((x5).toNatClampNeg) (((vp_updL (eJ h 0 42) (((((x5 / 4) * 4) + (y1 ||| y0))).toNatClampNeg) (((eJ h 0 42) (((((x5 / 4) * 4) + (y1 ||| y0))).toNatClampNeg)) + ((((eJ h 0 41) ((x5).toNatClampNeg)) * (((10 - x1)).toInt64)) * 10))) ((x5).toNatClampNeg)) + ((((eJ h 0 41) ((x5).toNatClampNeg)) * ((x1).toInt64)) * (((10 - x2)).toInt64)))) ((((4 * ((x5 / 4) ||| r_9)) + (x5 - x5 / 4 * 4))).toNatClampNeg) (((vp_updL (vp_updL (eJ h 0 42) (((((x5 / 4) * 4) + (y1 ||| y0))).toNatClampNeg) (((eJ h 0 42) (((((x5 / 4) * 4) + (y1 ||| y0))).toNatClampNeg)) + ((((eJ h 0 41) ((x5).toNatClampNeg)) * (((10 - x1)).toInt64)) * 10))) ((x5).toNatClampNeg) (((vp_updL (eJ h 0 42) (((((x5 / 4) * 4) + (y1 ||| y0))).toNatClampNeg) (((eJ h 0 42) (((((x5 / 4) * 4) + (y1 ||| y0))).toNatClampNeg)) + ((((eJ h 0 41) ((x5).toNatClampNeg)) * (((10 - x1)).toInt64)) * 10))) ((x5).toNatClampNeg)) + ((((eJ h 0 41) ((x5).toNatClampNeg)) * ((x1).toInt64)) * (((10 - x2)).toInt64)))) ((((4 * ((x5 / 4) ||| r_9)) + (x5 - x5 / 4 * 4))).toNatClampNeg)) + ((((eJ h 0 41) ((x5).toNatClampNeg)) * ((x1).toInt64)) * ((x2).toInt64))))) x1 x2 x3 x4 (x5 + 1)) (fun _ k => Fr_trans (Fr_sJ fm_X9_comesMany_27_3_0_42 (Fr_sJ fm_X9_comesMany_27_3_0_42 (Fr_sJ fm_X9_comesMany_27_3_0_42 (Fr_refl _ h)))) k)
theorem fs_X9_comesMany_164__X9_comesMany_27 : ∀ x ∈ S_X9_comesMany_164, x ∈ S_X9_comesMany_27 := by decide
theorem w_f_X9_comesMany_27  : ∀ (n : Nat) (h : HS) (x1 : Int32) (x2 : Int32) (x3 : Int32) (x4 : Int32) (x5 : Int32), pk (f_X9_comesMany_27  n h x1 x2 x3 x4 x5) (fun a => Fr S_X9_comesMany_27 h a) := by
  intro n
  induction n with
  | zero => intro h x1 x2 x3 x4 x5; exact pk_none
  | succ n ih =>
    intro h x1 x2 x3 x4 x5
    rw [f_X9_comesMany_27_s]
    refine pk_if (fun _ => ?_) (fun _ => ?_)
    · exact pk_mono (w_f_X9_comesMany_164 8589934592 h 0) (fun _ k => Fr_trans (Fr_refl _ h) (Fr_mono fs_X9_comesMany_164__X9_comesMany_27 k))
    · refine pk_if (fun _ => ?_) (fun _ => ?_)
      · exact pk_mono (w_f_X9_comesMany_51 (f_X9_comesMany_27 n) ih h x1 x2 x3 x4 x5 0 (x5 - x5 / 4 * 4)) (fun _ k => Fr_trans (Fr_refl _ h) k)
      · refine pk_obf (fun r_5 => ?_)
        exact pk_mono (w_f_X9_comesMany_51 (f_X9_comesMany_27 n) ih h x1 x2 x3 x4 x5 r_5 (x5 - x5 / 4 * 4)) (fun _ k => Fr_trans (Fr_refl _ h) k)
def S_X9_comesMany_3 : CL := [(3, 0, 41), (3, 0, 42)]
theorem fm_X9_comesMany_3_3_0_42 : (3, 0, 42) ∈ S_X9_comesMany_3 := by decide
theorem fs_X9_comesMany_27__X9_comesMany_3 : ∀ x ∈ S_X9_comesMany_27, x ∈ S_X9_comesMany_3 := by decide
theorem w_f_X9_comesMany_3  : ∀ (n : Nat) (h : HS) (x1 : Int32) (x2 : Int32) (x3 : Int32) (x4 : Int32) (x5 : Int32), pk (f_X9_comesMany_3  n h x1 x2 x3 x4 x5) (fun a => Fr S_X9_comesMany_3 h a) := by
  intro n
  induction n with
  | zero => intro h x1 x2 x3 x4 x5; exact pk_none
  | succ n ih =>
    intro h x1 x2 x3 x4 x5
    rw [f_X9_comesMany_3_s]
    refine pk_if (fun _ => ?_) (fun _ => ?_)
    · exact pk_mono (w_f_X9_comesMany_27 8589934592 h x1 x2 x3 x4 0) (fun _ k => Fr_trans (Fr_refl _ h) (Fr_mono fs_X9_comesMany_27__X9_comesMany_3 k))
    · refine pk_chk (fun _ => ?_)
      exact pk_mono (ih (sJ h 0 42 (vp_updL (eJ h 0 42) ((x5).toNatClampNeg) 0)) x1 x2 x3 x4 (x5 + 1)) (fun _ k => Fr_trans (Fr_sJ fm_X9_comesMany_3_3_0_42 (Fr_refl _ h)) k)
def S_X9_comesMany : CL := [(3, 0, 41), (3, 0, 42)]
theorem fs_X9_comesMany_3__X9_comesMany : ∀ x ∈ S_X9_comesMany_3, x ∈ S_X9_comesMany := by decide
theorem w_f_X9_comesMany (h : HS) (p1 : Int32) (p2 : Int32) (p3 : Int32) (p4 : Int32) : pk (f_X9_comesMany h p1 p2 p3 p4) (fun a => Fr S_X9_comesMany h a) := by
  unfold f_X9_comesMany
  exact pk_mono (w_f_X9_comesMany_3 8589934592 h p1 p2 p3 p4 0) (fun _ k => Fr_trans (Fr_refl _ h) (Fr_mono fs_X9_comesMany_3__X9_comesMany k))
def S_X9_manyOf_5 : CL := []
theorem w_f_X9_manyOf_89 (k5 : HS → Int32 → Int64 → Int32 → Option (Int64 × HS)) (hk_k5 : ∀ (h : HS) (x0 : Int32) (x1 : Int64) (x2 : Int32), pk (k5 h x0 x1 x2) (fun a => Fr S_X9_manyOf_5 h a.2)) (h : HS) (x1 : Int32) (x4 : Int32) (y0 : Int64) (y1 : Int64) : pk (f_X9_manyOf_89 k5 h x1 x4 y0 y1) (fun a => Fr S_X9_manyOf_5 h a.2) := by
  unfold f_X9_manyOf_89
  exact pk_mono (hk_k5 h x1 (y1 + y0) (x4 + 1)) (fun _ k => Fr_trans (Fr_refl _ h) k)
theorem w_f_X9_manyOf_88 (k5 : HS → Int32 → Int64 → Int32 → Option (Int64 × HS)) (hk_k5 : ∀ (h : HS) (x0 : Int32) (x1 : Int64) (x2 : Int32), pk (k5 h x0 x1 x2) (fun a => Fr S_X9_manyOf_5 h a.2)) (h : HS) (x1 : Int32) (x4 : Int32) (y0 : Int64) : pk (f_X9_manyOf_88 k5 h x1 x4 y0) (fun a => Fr S_X9_manyOf_5 h a.2) := by
  unfold f_X9_manyOf_88
  exact pk_mono (w_f_X9_manyOf_89 k5 hk_k5 h x1 x4 0 y0) (fun _ k => Fr_trans (Fr_refl _ h) k)
theorem w_f_X9_manyOf_78 (k5 : HS → Int32 → Int64 → Int32 → Option (Int64 × HS)) (hk_k5 : ∀ (h : HS) (x0 : Int32) (x1 : Int64) (x2 : Int32), pk (k5 h x0 x1 x2) (fun a => Fr S_X9_manyOf_5 h a.2)) (h : HS) (x1 : Int32) (x4 : Int32) (y0 : Int64) : pk (f_X9_manyOf_78 k5 h x1 x4 y0) (fun a => Fr S_X9_manyOf_5 h a.2) := by
  unfold f_X9_manyOf_78
  refine pk_chk (fun _ => ?_)
  exact pk_mono (w_f_X9_manyOf_89 k5 hk_k5 h x1 x4 ((eJ h 0 41) ((x4).toNatClampNeg)) y0) (fun _ k => Fr_trans (Fr_refl _ h) k)
theorem w_f_X9_manyOf_40 (k5 : HS → Int32 → Int64 → Int32 → Option (Int64 × HS)) (hk_k5 : ∀ (h : HS) (x0 : Int32) (x1 : Int64) (x2 : Int32), pk (k5 h x0 x1 x2) (fun a => Fr S_X9_manyOf_5 h a.2)) (h : HS) (x1 : Int32) (x2 : Int64) (x4 : Int32) (x5 : Int32) (y0 : Int32) : pk (f_X9_manyOf_40 k5 h x1 x2 x4 x5 y0) (fun a => Fr S_X9_manyOf_5 h a.2) := by
  unfold f_X9_manyOf_40
  refine pk_if (fun _ => ?_) (fun _ => ?_)
  · refine pk_if (fun _ => ?_) (fun _ => ?_)
    · exact pk_mono (w_f_X9_manyOf_88 k5 hk_k5 h x1 x4 x2) (fun _ k => Fr_trans (Fr_refl _ h) k)
    · exact pk_mono (w_f_X9_manyOf_78 k5 hk_k5 h x1 x4 x2) (fun _ k => Fr_trans (Fr_refl _ h) k)
  · refine pk_if (fun _ => ?_) (fun _ => ?_)
    · refine pk_if (fun _ => ?_) (fun _ => ?_)
      · exact pk_mono (w_f_X9_manyOf_88 k5 hk_k5 h x1 x4 x2) (fun _ k => Fr_trans (Fr_refl _ h) k)
      · exact pk_mono (w_f_X9_manyOf_78 k5 hk_k5 h x1 x4 x2) (fun _ k => Fr_trans (Fr_refl _ h) k)
    · refine pk_if (fun _ => ?_) (fun _ => ?_)
      · exact pk_mono (w_f_X9_manyOf_88 k5 hk_k5 h x1 x4 x2) (fun _ k => Fr_trans (Fr_refl _ h) k)
      · refine pk_if (fun _ => ?_) (fun _ => ?_)
        · exact pk_mono (w_f_X9_manyOf_78 k5 hk_k5 h x1 x4 x2) (fun _ k => Fr_trans (Fr_refl _ h) k)
        · exact pk_mono (w_f_X9_manyOf_88 k5 hk_k5 h x1 x4 x2) (fun _ k => Fr_trans (Fr_refl _ h) k)
theorem w_f_X9_manyOf_25 (k5 : HS → Int32 → Int64 → Int32 → Option (Int64 × HS)) (hk_k5 : ∀ (h : HS) (x0 : Int32) (x1 : Int64) (x2 : Int32), pk (k5 h x0 x1 x2) (fun a => Fr S_X9_manyOf_5 h a.2)) (h : HS) (x1 : Int32) (x2 : Int64) (x4 : Int32) (y0 : Int32) : pk (f_X9_manyOf_25 k5 h x1 x2 x4 y0) (fun a => Fr S_X9_manyOf_5 h a.2) := by
  unfold f_X9_manyOf_25
  refine pk_if (fun _ => ?_) (fun _ => ?_)
  · exact pk_mono (w_f_X9_manyOf_40 k5 hk_k5 h x1 x2 x4 y0 1) (fun _ k => Fr_trans (Fr_refl _ h) k)
  · exact pk_mono (w_f_X9_manyOf_40 k5 hk_k5 h x1 x2 x4 y0 0) (fun _ k => Fr_trans (Fr_refl _ h) k)
theorem w_f_X9_manyOf_5  : ∀ (n : Nat) (h : HS) (x1 : Int32) (x2 : Int64) (x4 : Int32), pk (f_X9_manyOf_5  n h x1 x2 x4) (fun a => Fr S_X9_manyOf_5 h a.2) := by
  intro n
  induction n with
  | zero => intro h x1 x2 x4; exact pk_none
  | succ n ih =>
    intro h x1 x2 x4
    rw [f_X9_manyOf_5_s]
    refine pk_if (fun _ => ?_) (fun _ => ?_)
    · exact pk_some (Fr_refl _ h)
    · refine pk_if (fun _ => ?_) (fun _ => ?_)
      · exact pk_mono (w_f_X9_manyOf_25 (f_X9_manyOf_5 n) ih h x1 x2 x4 1) (fun _ k => Fr_trans (Fr_refl _ h) k)
      · exact pk_mono (w_f_X9_manyOf_25 (f_X9_manyOf_5 n) ih h x1 x2 x4 0) (fun _ k => Fr_trans (Fr_refl _ h) k)
def S_X9_manyOf : CL := []
theorem fs_X9_manyOf_5__X9_manyOf : ∀ x ∈ S_X9_manyOf_5, x ∈ S_X9_manyOf := by decide
theorem w_f_X9_manyOf (h : HS) (p1 : Int32) : pk (f_X9_manyOf h p1) (fun a => Fr S_X9_manyOf h a.2) := by
  unfold f_X9_manyOf
  exact pk_mono (w_f_X9_manyOf_5 8589934592 h p1 0 0) (fun _ k => Fr_trans (Fr_refl _ h) (Fr_mono fs_X9_manyOf_5__X9_manyOf k))
def S_X9_odds_16 : CL := []
theorem w_f_X9_odds_16 (h : HS) : pk (f_X9_odds_16 h) (fun a => Fr S_X9_odds_16 h a.2) := by
  unfold f_X9_odds_16
  exact pk_some (Fr_refl _ h)
def S_X9_odds_212 : CL := []
theorem w_f_X9_odds_212 (h : HS) (y0 : Int64) : pk (f_X9_odds_212 h y0) (fun a => Fr S_X9_odds_212 h a.2) := by
  unfold f_X9_odds_212
  exact pk_some (Fr_refl _ h)
def S_X9_odds_170 : CL := []
theorem fs_X9_odds_212__X9_odds_170 : ∀ x ∈ S_X9_odds_212, x ∈ S_X9_odds_170 := by decide
theorem w_f_X9_odds_170  : ∀ (n : Nat) (h : HS) (x3 : Int32) (x5 : Int64) (x7 : Int64) (x9 : Int64) (x11 : Int64), pk (f_X9_odds_170  n h x3 x5 x7 x9 x11) (fun a => Fr S_X9_odds_170 h a.2) := by
  intro n
  induction n with
  | zero => intro h x3 x5 x7 x9 x11; exact pk_none
  | succ n ih =>
    intro h x3 x5 x7 x9 x11
    rw [f_X9_odds_170_s]
    refine pk_if (fun _ => ?_) (fun _ => ?_)
    · refine pk_if (fun _ => ?_) (fun _ => ?_)
      · refine pk_chk (fun _ => ?_)
        exact pk_mono (w_f_X9_odds_212 h (x7 / x9)) (fun _ k => Fr_trans (Fr_refl _ h) (Fr_mono fs_X9_odds_212__X9_odds_170 k))
      · refine pk_chk (fun _ => ?_)
        exact pk_mono (w_f_X9_odds_212 h (x5 / x9)) (fun _ k => Fr_trans (Fr_refl _ h) (Fr_mono fs_X9_odds_212__X9_odds_170 k))
    · refine pk_chk (fun _ => ?_)
      exact pk_mono (ih h x3 x5 x7 x11 (x9 - x9 / x11 * x11)) (fun _ k => Fr_trans (Fr_refl _ h) k)
def S_X9_odds_51 : CL := [(1, 0, 39), (3, 0, 40), (3, 0, 41), (3, 0, 42)]
theorem w_f_X9_odds_149 (k51 : HS → Int32 → Int32 → Int32 → Int32 → Int64 → Int32 → Option (Int64 × HS)) (hk_k51 : ∀ (h : HS) (x0 : Int32) (x1 : Int32) (x2 : Int32) (x3 : Int32) (x4 : Int64) (x5 : Int32), pk (k51 h x0 x1 x2 x3 x4 x5) (fun a => Fr S_X9_odds_51 h a.2)) (h : HS) (x1 : Int32) (x2 : Int32) (x3 : Int32) (x4 : Int32) (x5 : Int64) (x7 : Int32) : pk (f_X9_odds_149 k51 h x1 x2 x3 x4 x5 x7) (fun a => Fr S_X9_odds_51 h a.2) := by
  unfold f_X9_odds_149
  exact pk_mono (hk_k51 h x1 x2 x3 x4 x5 (x7 + 1)) (fun _ k => Fr_trans (Fr_refl _ h) k)
theorem fs_X9_manyOf__X9_odds_51 : ∀ x ∈ S_X9_manyOf, x ∈ S_X9_odds_51 := by decide
theorem fs_X9_odds_170__X9_odds_51 : ∀ x ∈ S_X9_odds_170, x ∈ S_X9_odds_51 := by decide
theorem fs_X9_ofGoose__X9_odds_51 : ∀ x ∈ S_X9_ofGoose, x ∈ S_X9_odds_51 := by decide
theorem fs_X9_marketOf__X9_odds_51 : ∀ x ∈ S_X9_marketOf, x ∈ S_X9_odds_51 := by decide
theorem fs_X9_isTrue__X9_odds_51 : ∀ x ∈ S_X9_isTrue, x ∈ S_X9_odds_51 := by decide
theorem fs_X9_comesMany__X9_odds_51 : ∀ x ∈ S_X9_comesMany, x ∈ S_X9_odds_51 := by decide
theorem w_f_X9_odds_51  : ∀ (n : Nat) (h : HS) (x1 : Int32) (x2 : Int32) (x3 : Int32) (x4 : Int32) (x5 : Int64) (x7 : Int32), pk (f_X9_odds_51  n h x1 x2 x3 x4 x5 x7) (fun a => Fr S_X9_odds_51 h a.2) := by
  intro n
  induction n with
  | zero => intro h x1 x2 x3 x4 x5 x7; exact pk_none
  | succ n ih =>
    intro h x1 x2 x3 x4 x5 x7
    rw [f_X9_odds_51_s]
    refine pk_if (fun _ => ?_) (fun _ => ?_)
    · refine pk_ob2 (w_f_X9_manyOf h x2) (fun r_9 h_9 k_1 => ?_)
      replace k_1 := Fr_trans (Fr_refl _ h) (Fr_mono fs_X9_manyOf__X9_odds_51 k_1)
      exact pk_mono (w_f_X9_odds_170 8589934592 h_9 x3 x5 r_9 x5 r_9) (fun _ k => Fr_trans k_1 (Fr_mono fs_X9_odds_170__X9_odds_51 k))
    · refine pk_ob2 (w_f_X9_ofGoose h x7 2) (fun r_10 h_10 k_2 => ?_)
      replace k_2 := Fr_trans (Fr_refl _ h) (Fr_mono fs_X9_ofGoose__X9_odds_51 k_2)
      refine pk_if (fun _ => ?_) (fun _ => ?_)
      · refine pk_ob2 (w_f_X9_ofGoose h_10 x7 4) (fun r_12 h_12 k_3 => ?_)
        replace k_3 := Fr_trans k_2 (Fr_mono fs_X9_ofGoose__X9_odds_51 k_3)
        refine pk_if (fun _ => ?_) (fun _ => ?_)
        · refine pk_if (fun _ => ?_) (fun _ => ?_)
          · refine pk_ob2 (w_f_X9_marketOf h_12 0 x7) (fun r_15 h_15 k_4 => ?_)
            replace k_4 := Fr_trans k_3 (Fr_mono fs_X9_marketOf__X9_odds_51 k_4)
            refine pk_ob2 (w_f_X9_marketOf h_15 1 x7) (fun r_16 h_16 k_5 => ?_)
            replace k_5 := Fr_trans k_4 (Fr_mono fs_X9_marketOf__X9_odds_51 k_5)
            refine pk_ob2 (w_f_X9_isTrue h_16 x7) (fun r_17 h_17 k_6 => ?_)
            replace k_6 := Fr_trans k_5 (Fr_mono fs_X9_isTrue__X9_odds_51 k_6)
            refine pk_ob2 (w_f_X9_ofGoose h_17 x7 3) (fun r_18 h_18 k_7 => ?_)
            replace k_7 := Fr_trans k_6 (Fr_mono fs_X9_ofGoose__X9_odds_51 k_7)
            refine pk_ob1 (w_f_X9_comesMany h_18 r_15 r_16 r_18 r_17) (fun h_19 k_8 => ?_)
            replace k_8 := Fr_trans k_7 (Fr_mono fs_X9_comesMany__X9_odds_51 k_8)
            exact pk_mono (w_f_X9_odds_149 (f_X9_odds_51 n) ih h_19 x1 x2 x3 (x4 + 1) (x5 * 100) x7) (fun _ k => Fr_trans k_8 k)
          · exact pk_some k_3
        · exact pk_mono (w_f_X9_odds_149 (f_X9_odds_51 n) ih h_12 x1 x2 x3 x4 x5 x7) (fun _ k => Fr_trans k_3 k)
      · exact pk_mono (w_f_X9_odds_149 (f_X9_odds_51 n) ih h_10 x1 x2 x3 x4 x5 x7) (fun _ k => Fr_trans k_2 k)
def S_X9_odds : CL := [(1, 0, 39), (3, 0, 40), (3, 0, 41), (3, 0, 42)]
theorem fs_X9_odds_16__X9_odds : ∀ x ∈ S_X9_odds_16, x ∈ S_X9_odds := by decide
theorem fs_X9_knownBy__X9_odds : ∀ x ∈ S_X9_knownBy, x ∈ S_X9_odds := by decide
theorem fs_X9_startsMany__X9_odds : ∀ x ∈ S_X9_startsMany, x ∈ S_X9_odds := by decide
theorem fs_X9_odds_51__X9_odds : ∀ x ∈ S_X9_odds_51, x ∈ S_X9_odds := by decide
