theorem u_X9_plan_73 (h : HS) (x3 x4 : Int32) (w : x4.toInt ≤ 3) : ∀ (n : Nat) (x5 x6 : Int32), 0 ≤ x6.toInt → 0 < n → (3 - (x6).toInt : Int) < (n : Int) → ok (f_X9_plan_73 n h x3 x4 x5 x6) (fun a => a.2 = h) := by
  intro n
  induction n with
  | zero => intro x5 x6 i0 hn hm; exact absurd hn (by decide)
  | succ n ih =>
    intro x5 x6 i0 hn hm
    rw [f_X9_plan_73_s]
    unfold f_X9_plan_131 f_X9_plan_123
    refine ok_if (fun c => ok_some rfl) (fun c => ?_)
    have d := gi_of_nle c
    have z1 : (1 : Int32).toInt = 1 := rfl
    have a := fb_addI (x := x6) (y := 1) (by omega) (by omega)
    refine ok_if (fun c => ok_some rfl) (fun c => ?_)
    refine ok_chk (by omega) ?_
    refine ok_if (fun c => ?_) (fun c => ih _ (x6 + 1) (by omega) (by omega) (by omega))
    exact ok_chk (by omega) (ok_chk (by omega) (ih _ (x6 + 1) (by omega) (by omega) (by omega)))
theorem u_X9_plan_41 {h0 : HS} (x2 x3 : Int32) : ∀ (n : Nat) (h : HS) (x4 : Int32), SM h0 h → 1 ≤ x4.toInt → 0 < n → (4 - (x4).toInt : Int) < (n : Int) → ok (f_X9_plan_41 n h x2 x3 x4) (fun a => SM h0 a.2 ∧ True) := by
  intro n
  induction n with
  | zero => intro h x4 s i0 hn hm; exact absurd hn (by decide)
  | succ n ih =>
    intro h x4 s i0 hn hm
    rw [f_X9_plan_41_s]
    unfold f_X9_plan_68
    refine ok_if (fun c => ok_some ⟨s, trivial⟩) (fun c => ?_)
    have d := gi_of_nle c
    have z1 : (1 : Int32).toInt = 1 := rfl; have z4 : (4 : Int32).toInt = 4 := rfl
    have a := fb_addI (x := x4) (y := 1) (by omega) (by omega)
    refine ok_ob2 (u_X9_plansOf h x4 x2 s.1 (by omega)) (fun r10 h10 k10 => ?_)
    have s10 := SM_trans s k10.1
    refine ok_if (fun c => ih h10 (x4 + 1) s10 (by omega) (by omega) (by omega)) (fun c => ?_)
    have go : ∀ y : Int32, ok (f_X9_plan_73 8589934592 h10 x3 x4 y 0) (fun a => SM h0 a.2 ∧ True) := fun y => ok_mono (u_X9_plan_73 h10 x3 x4 (by omega) _ y 0 (by decide) (by decide) (by have : (0 : Int32).toInt = 0 := rfl; omega)) (fun a k => by rw [k]; exact ⟨s10, trivial⟩)
    exact ok_if (fun c => go _) (fun c => go _)
theorem u_X9_plan_33 (h : HS) (x1 x2 x3 : Int32) (hI : IM h) : ok (f_X9_plan_33 h x1 x2 x3) (fun a => SF h a.2) := by
  unfold f_X9_plan_33
  refine ok_ob1 (u_X9_laysFlock h x1 hI) (fun h8 k8 => ?_)
  refine ok_mono (u_X9_plan_41 x2 x3 _ h8 1 (SM_refl k8.1) (by decide) (by decide) (by have : (1 : Int32).toInt = 1 := rfl; omega)) (fun a k => ⟨k.1.1, k.1.2.1.trans k8.2⟩)
theorem u_X9_plan (h : HS) (p1 p2 p3 : Int32) (hI : IM h) : ok (f_X9_plan h p1 p2 p3) (fun a => SF h a.2) := by
  unfold f_X9_plan f_X9_plan_30
  refine ok_ob1 (u_X9_isLetterNumber p1) (fun r1 k1 => ok_if (fun c => ok_some ⟨hI, rfl⟩) (fun c1 => ?_))
  refine ok_ob1 (u_X9_in p2 1 100) (fun r3 k3 => ok_if (fun c => ok_some ⟨hI, rfl⟩) (fun c3 => ?_))
  refine ok_if (fun c => u_X9_plan_33 h p1 p2 p3 hI) (fun c => ?_)
  refine ok_ob2 (u_X9_isGoose h p3 hI) (fun r6 h6 k6 => ?_)
  have e6 : h = h6 := k6.1.symm
  subst e6
  exact ok_if (fun c => ok_some ⟨hI, rfl⟩) (fun c => u_X9_plan_33 h p1 p2 p3 hI)
