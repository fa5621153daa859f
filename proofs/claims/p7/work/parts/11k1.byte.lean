theorem bp_b (x : Int32) : x.toInt8.toInt32 &&& 255 = x &&& 255 := by
  apply Int32.toBitVec_inj.mp
  rw [Int32.toBitVec_and, Int32.toBitVec_and, Int8.toBitVec_toInt32, Int32.toBitVec_toInt8]
  apply BitVec.eq_of_getLsbD_eq
  intro i hi
  rw [BitVec.getLsbD_and, BitVec.getLsbD_and]
  have hm : ∀ i < 32, 8 ≤ i → (255 : Int32).toBitVec.getLsbD i = false := by decide
  rcases Nat.lt_or_ge i 8 with z | z
  · rw [BitVec.getLsbD_signExtend, BitVec.getLsbD_signExtend, if_pos z, if_pos hi]
    simp only [z, hi, decide_true, Bool.true_and]
  · rw [hm i hi z]; simp
theorem byte_rel (y : Int32) : BR (y &&& 255).toInt (vp_nar .byte y.toInt8.toInt32).toInt := by
  obtain ⟨j, hj, e⟩ := pk_andE y (m := 255) 8 (by decide)
  have hb : y.toInt8.toInt32.toInt8.toInt32 = y.toInt8.toInt32 := by rw [Int8.toInt8_toInt32]
  have e2 : vp_nar .byte y.toInt8.toInt32 = (nI j).toInt8.toInt32 := by
    rw [vp_nar_byte, hb]
    exact (sc_eq hb hj).mpr ((bp_b y).trans e)
  rw [e, e2]
  have key : ∀ n : Fin 256, 0 ≤ (nI n.val).toInt ∧ (nI n.val).toInt ≤ 255 ∧ (((nI n.val).toInt < 128 ∧ (nI n.val).toInt8.toInt32.toInt = (nI n.val).toInt) ∨ (128 ≤ (nI n.val).toInt ∧ (nI n.val).toInt8.toInt32.toInt = (nI n.val).toInt - 256)) := by decide +kernel
  exact key ⟨j, hj⟩
theorem i32_m8 (x : Int32) : x - 8 = x + (-8) := Int32.sub_eq_add_neg x 8
theorem put_both {x1 : Int32} : ∀ (n m : Nat) (h g h' g' : HS) (x2 : Int32) (k : Int), f_X5_addFour_3 n h x1 x2 = some h' → f_X9_put_3 m g x1 x2 = some g' → TAP h g → x2.toInt = 8 * k → -1 ≤ k → k ≤ 3 → 0 ≤ cL h → cL h + k + 1 ≤ 300 → TAP h' g' ∧ cL h' = cL h + k + 1 := by
  have z0 : (0 : Int32).toInt = 0 := rfl
  have z1 : (1 : Int32).toInt = 1 := rfl
  have z8 : (-8 : Int32).toInt = -8 := rfl
  have z300 : (300 : Int32).toInt = 300 := rfl
  intro n
  induction n with
  | zero => intro m h g h' g' x2 k e; cases e
  | succ n ih =>
    intro m h g h' g' x2 k e b tap hk k0 k1 l0 l1
    cases m with
    | zero => cases b
    | succ m =>
      rw [f_X5_addFour_3_s] at e
      rw [f_X9_put_3_s] at b
      by_cases c : x2 < 0
      · rw [if_pos c] at e b
        have d := gi_of_lt c
        cases e
        cases b
        exact ⟨tap, by omega⟩
      · rw [if_neg c] at e b
        have d := gi_of_nlt c
        unfold cL at *
        have t1 := tap.1
        rw [if_neg (fun q => by have := gi_of_le q; omega)] at e
        obtain ⟨-, e⟩ := ob_if e
        obtain ⟨-, b⟩ := ob_if b
        unfold f_X5_addFour_45 at e
        rw [i32_m8] at b
        have a := fb_addI (x := x2) (y := -8) (by omega) (by omega)
        have a3 := fb_addI (x := eI h 3 1) (y := 1) (by omega) (by omega)
        have ix : (eI h 3 1).toNatClampNeg = (eI h 3 1).toInt.toNat := rfl
        have iy : (eI g 0 3).toNatClampNeg = (eI h 3 1).toInt.toNat := by rw [← t1]; rfl
        rw [ix] at e
        rw [iy] at b
        have cl : (eI (sI (sA h 3 0 (upd (eA h 3 0) (eI h 3 1).toInt.toNat (x1 >>> (x2 &&& 31) &&& 255))) 3 1 (eI h 3 1 + 1)) 3 1).toInt = (eI h 3 1).toInt + 1 := a3.trans (by omega)
        have tp : TAP (sI (sA h 3 0 (upd (eA h 3 0) (eI h 3 1).toInt.toNat (x1 >>> (x2 &&& 31) &&& 255))) 3 1 (eI h 3 1 + 1)) (sI (sA g 0 2 (upd (eA g 0 2) (eI h 3 1).toInt.toNat (vp_nar .byte (x1 >>> (x2 &&& 31)).toInt8.toInt32))) 0 3 (eI g 0 3 + 1)) := by
          refine ⟨?_, fun j j0 j1 => ?_⟩
          · show eI h 3 1 + 1 = eI g 0 3 + 1
            rw [t1]
          · have j1 : j < (eI h 3 1 + 1).toInt := j1
            show BR (upd (eA h 3 0) (eI h 3 1).toInt.toNat (x1 >>> (x2 &&& 31) &&& 255) j.toNat).toInt (upd (eA g 0 2) (eI h 3 1).toInt.toNat (vp_nar .byte (x1 >>> (x2 &&& 31)).toInt8.toInt32) j.toNat).toInt
            unfold upd
            by_cases cj : j.toNat = (eI h 3 1).toInt.toNat
            · rw [if_pos cj, if_pos cj]
              exact byte_rel _
            · rw [if_neg cj, if_neg cj]
              exact tap.2 j j0 (by unfold cL; omega)
        obtain ⟨y1, y2⟩ := ih m _ _ h' g' (x2 + -8) (k - 1) e b tp (by omega) (by omega) (by omega) (by omega) (by omega)
        exact ⟨y1, by omega⟩
theorem four_both {h g h' g' : HS} {x1 : Int32} (e : f_X5_addFour h x1 = some h') (b : f_X9_put g x1 = some g') (tap : TAP h g) (l0 : 0 ≤ cL h) (l1 : cL h + 4 ≤ 300) : TAP h' g' ∧ cL h' = cL h + 4 := by
  unfold f_X5_addFour at e
  unfold f_X9_put at b
  obtain ⟨y1, y2⟩ := put_both _ _ h g h' g' 24 3 e b tap (by decide) (by decide) (by decide) l0 (by omega)
  exact ⟨y1, by omega⟩
theorem feed_both {h g : HS} {p1 p2 p3 p4 p5 : Int32} {z w : Int32 × HS} (e : f_X8_feed h p1 p2 p3 p4 p5 = some z) (b : f_X9_feed g p1 p2 p3 p4 p5 = some w) (tap : TAP h g) (l0 : 0 ≤ cL h) (l1 : cL h ≤ 300) : TAP z.2 w.2 ∧ z.1 = w.1 := by
  have z20 : (20 : Int32).toInt = 20 := rfl
  have z300 : (300 : Int32).toInt = 300 := rfl
  unfold f_X8_feed at e
  unfold f_X9_feed at b
  rw [← tap.1] at b
  by_cases c : eI h 3 1 + 20 ≤ 300
  · rw [if_pos c] at e b
    have d := gi_of_le c
    unfold cL at l0 l1
    have a := fb_addI (x := eI h 3 1) (y := 20) (by omega) (by omega)
    have l2 : cL h + 20 ≤ 300 := by unfold cL; omega
    have l3 : 0 ≤ cL h := l0
    obtain ⟨h2, e2, e⟩ := ob1_some e
    obtain ⟨h3, e3, e⟩ := ob1_some e
    obtain ⟨h4, e4, e⟩ := ob1_some e
    obtain ⟨h5, e5, e⟩ := ob1_some e
    obtain ⟨h6, e6, e⟩ := ob1_some e
    obtain ⟨g2, b2, b⟩ := ob1_some b
    obtain ⟨g3, b3, b⟩ := ob1_some b
    obtain ⟨g4, b4, b⟩ := ob1_some b
    obtain ⟨g5, b5, b⟩ := ob1_some b
    obtain ⟨g6, b6, b⟩ := ob1_some b
    cases e
    cases b
    obtain ⟨t2, q2⟩ := four_both e2 b2 tap l3 (by omega)
    obtain ⟨t3, q3⟩ := four_both e3 b3 t2 (by omega) (by omega)
    obtain ⟨t4, q4⟩ := four_both e4 b4 t3 (by omega) (by omega)
    obtain ⟨t5, q5⟩ := four_both e5 b5 t4 (by omega) (by omega)
    obtain ⟨t6, q6⟩ := four_both e6 b6 t5 (by omega) (by omega)
    exact ⟨t6, t6.1⟩
  · rw [if_neg c] at e b
    cases e
    cases b
    exact ⟨tap, rfl⟩
