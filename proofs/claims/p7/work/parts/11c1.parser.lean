/-! the reference's parser: what stands between two turns -/
def rk (o : Int32) : Int := if o = 407 then 1 else if o = 406 then 2 else if o = 43 ∨ o = 45 then 3 else 4
theorem rk_lo (o : Int32) : 1 ≤ rk o ∧ rk o ≤ 4 := by
  unfold rk
  by_cases c1 : o = 407
  · rw [if_pos c1]; decide
  rw [if_neg c1]
  by_cases c2 : o = 406
  · rw [if_pos c2]; decide
  rw [if_neg c2]
  by_cases c3 : o = 43 ∨ o = 45
  · rw [if_pos c3]; decide
  rw [if_neg c3]; decide
theorem u_rank (p : Int32) : ok (f_X9_rank p) (fun a => a.toInt = rk p) := by
  unfold f_X9_rank f_X9_rank_34 f_X9_rank_39 rk
  refine ok_if (fun c => ok_some (by rw [if_pos c]; rfl)) (fun c1 => ?_)
  refine ok_if (fun c => ok_some (by rw [if_neg c1, if_pos c]; rfl)) (fun c2 => ?_)
  refine ok_if (fun c => ok_some (by rw [if_neg c1, if_neg c2, if_pos (Or.inl c)]; rfl)) (fun c3 => ?_)
  refine ok_if (fun c => ok_some (by rw [if_neg c1, if_neg c2, if_pos (Or.inr c)]; rfl)) (fun c4 => ?_)
  exact ok_some (by rw [if_neg c1, if_neg c2, if_neg (fun e => e.elim c3 c4)]; rfl)
def BN (o : Int32) : Prop := ¬ o = 400 ∧ ¬ o = 401 ∧ ¬ o = 402 ∧ ¬ o = 405 ∧ ¬ o = 408
def WT (F W : Int) (fr wo wf : Nat → Int32) : Prop := ∀ i : Nat, (i : Int) < W → BN (wo i) ∧ (wf i).toInt ≤ F ∧ (i : Int) + 5 ≤ 4 * (wf i).toInt + rk (wo i) ∧ (3 ≤ rk (wo i) ∨ fr ((wf i).toInt.toNat - 1) = 2) ∧ ¬ fr ((wf i).toInt.toNat - 1) = 3 ∧ ¬ fr ((wf i).toInt.toNat - 1) = 7 ∧ ∀ j : Nat, (j : Int) < W → i ≤ j → (wf i).toInt ≤ (wf j).toInt
theorem WT_le {F W : Int} {fr wo wf : Nat → Int32} (h : WT F W fr wo wf) (hF : F ≤ 10) : W ≤ 40 := by
  apply Int.not_lt.mp
  intro c
  have k := h 40 (by omega)
  have r := rk_lo (wo 40)
  omega
theorem WT_pop {F W : Int} {fr wo wf : Nat → Int32} (h : WT F W fr wo wf) {V : Int} (hv : V ≤ W) : WT F V fr wo wf := by
  intro i hi
  obtain ⟨a, b, c, d, e, f, g⟩ := h i (by omega)
  exact ⟨a, b, c, d, e, f, fun j hj hij => g j (by omega) hij⟩
theorem WT_fr {F G W : Int} {fr gr wo wf : Nat → Int32} (h : WT F W fr wo wf) (h1 : ∀ i : Nat, (i : Int) < W → (wf i).toInt ≤ G) (h2 : ∀ i : Nat, (i : Int) < W → gr ((wf i).toInt.toNat - 1) = fr ((wf i).toInt.toNat - 1)) : WT G W gr wo wf := by
  intro i hi
  obtain ⟨a, b, c, d, e, f, g⟩ := h i hi
  rw [h2 i hi]
  exact ⟨a, h1 i hi, c, d, e, f, g⟩
theorem WT_push {F W : Int} {fr wo wf : Nat → Int32} {o f : Int32} (h : WT F W fr wo wf) (h0 : 0 ≤ W) (hf : f.toInt = F) (hF : 1 ≤ F) (hb : BN o) (h1 : 3 ≤ rk o ∨ fr (F.toNat - 1) = 2) (h3 : ¬ fr (F.toNat - 1) = 3) (h7 : ¬ fr (F.toNat - 1) = 7) (ht : W = 0 ∨ ¬ ((wf (W.toNat - 1)).toInt = F ∧ rk o ≤ rk (wo (W.toNat - 1)))) : WT F (W + 1) fr (upd wo W.toNat o) (upd wf W.toNat f) := by
  intro i hi
  have ro := rk_lo o
  by_cases e : i = W.toNat
  · have e1 : upd wo W.toNat o i = o := by unfold upd; rw [if_pos e]
    have e2 : upd wf W.toNat f i = f := by unfold upd; rw [if_pos e]
    rw [e1, e2, hf]
    refine ⟨hb, by omega, ?_, h1, h3, h7, ?_⟩
    · rcases ht with ht | ht
      · omega
      · by_cases w0 : W = 0
        · omega
        obtain ⟨_, k2, k3, _⟩ := h (W.toNat - 1) (by omega)
        have rt := rk_lo (wo (W.toNat - 1))
        by_cases ef : (wf (W.toNat - 1)).toInt = F
        · have : ¬ rk o ≤ rk (wo (W.toNat - 1)) := fun q => ht ⟨ef, q⟩
          omega
        · omega
    · intro j hj hij
      have : j = W.toNat := by omega
      unfold upd
      rw [if_pos this, hf]
      omega
  · have e1 : upd wo W.toNat o i = wo i := by unfold upd; rw [if_neg e]
    have e2 : upd wf W.toNat f i = wf i := by unfold upd; rw [if_neg e]
    obtain ⟨a, b, c, d, e5, f5, g⟩ := h i (by omega)
    rw [e1, e2]
    refine ⟨a, b, c, d, e5, f5, ?_⟩
    intro j hj hij
    by_cases ej : j = W.toNat
    · unfold upd; rw [if_pos ej, hf]; exact b
    · unfold upd; rw [if_neg ej]; exact g j (by omega) hij
def GPs (NC NO : Int) (nw na no nv : Nat → Int32) : Prop := ∀ k : Nat, (k : Int) < NC → (nw k).toInt ≤ 3 → 0 ≤ (na k).toInt ∧ PG no nv (na k).toInt.toNat NO.toNat
def CUR (NO d p : Int) (no nv : Nat → Int32) : Prop := 0 ≤ p ∧ p ≤ NO ∧ PO no nv p.toNat (NO - p).toNat d
theorem PO_keep {o v o2 v2 : Nat → Int32} {p n : Nat} {d : Int} (h : PO o v p n d) (e1 : ∀ j : Nat, j < n → o2 (p + j) = o (p + j)) (e2 : ∀ j : Nat, j < n → v2 (p + j) = v (p + j)) : PO o2 v2 p n d := by
  obtain ⟨dep, d0, dn, hs⟩ := h
  refine ⟨dep, d0, dn, fun j hj => ?_⟩
  rw [e1 j hj, e2 j hj]
  exact hs j hj
theorem PO_snoc {o v : Nat → Int32} {p n : Nat} {d e : Int} (h : PO o v p n d) (hs : ST (o (p + n)) (v (p + n)) d e) : PO o v p (n + 1) e := by
  obtain ⟨dep, d0, dn, hd⟩ := h
  refine ⟨fun j => if j ≤ n then dep j else e, ?_, ?_, ?_⟩
  · show (if 0 ≤ n then dep 0 else e) = 0
    rw [if_pos (Nat.zero_le n)]; exact d0
  · show (if n + 1 ≤ n then dep (n + 1) else e) = e
    rw [if_neg (by omega)]
  · intro j hj
    show ST _ _ (if j ≤ n then dep j else e) (if j + 1 ≤ n then dep (j + 1) else e)
    rw [if_pos (by omega)]
    by_cases c : j + 1 ≤ n
    · rw [if_pos c]; exact hd j (by omega)
    · have : j = n := by omega
      subst this
      rw [if_neg c, dn]; exact hs
theorem upd_at {f : Nat → Int32} {i : Nat} {v : Int32} : upd f i v i = v := by unfold upd; rw [if_pos rfl]
theorem upd_no {f : Nat → Int32} {i j : Nat} {v : Int32} (h : ¬ j = i) : upd f i v j = f j := by unfold upd; rw [if_neg h]
theorem CUR_em {NO d e p : Int} {no nv : Nat → Int32} {x y : Int32} (h : CUR NO d p no nv) (hs : ST x y d e) : CUR (NO + 1) e p (upd no NO.toNat x) (upd nv NO.toNat y) := by
  obtain ⟨h0, h1, h2⟩ := h
  refine ⟨h0, by omega, ?_⟩
  have e1 : (NO + 1 - p).toNat = (NO - p).toNat + 1 := by omega
  have e2 : p.toNat + (NO - p).toNat = NO.toNat := by omega
  rw [e1]
  refine PO_snoc (PO_keep h2 (fun j hj => upd_no (by omega)) (fun j hj => upd_no (by omega))) ?_
  rw [e2, upd_at, upd_at]
  exact hs
theorem PG_keep {o v o2 v2 : Nat → Int32} {p m m2 : Nat} (h : PG o v p m) (hm : m ≤ m2) (e1 : ∀ j : Nat, j < m → o2 j = o j) (e2 : ∀ j : Nat, j < m → v2 j = v j) : PG o2 v2 p m2 := by
  obtain ⟨n, d, hn, he, hp⟩ := h
  exact ⟨n, d, by omega, (e1 _ hn).trans he, PO_keep hp (fun j hj => e1 _ (by omega)) (fun j hj => e2 _ (by omega))⟩
theorem GPs_em {NC NO : Int} {nw na no nv : Nat → Int32} {x y : Int32} (h : GPs NC NO nw na no nv) (h0 : 0 ≤ NO) : GPs NC (NO + 1) nw na (upd no NO.toNat x) (upd nv NO.toNat y) := by
  intro k hk hw
  obtain ⟨a, b⟩ := h k hk hw
  exact ⟨a, PG_keep b (by omega) (fun j hj => upd_no (by omega)) (fun j hj => upd_no (by omega))⟩
def K0 (T W NO NC F b : Int) (fr wo wf nw na no nv : Nat → Int32) : Prop := 0 ≤ W ∧ WT F W fr wo wf ∧ 0 ≤ NO ∧ NO + W + b ≤ T ∧ T ≤ 300 ∧ GPs NC NO nw na no nv ∧ F ≤ 10
def HK (h : HS) (b : Int) : Prop := K0 (eI h 0 16).toInt (eI h 0 25).toInt (eI h 0 36).toInt (eI h 0 29).toInt (eI h 0 22).toInt b (eA h 0 23) (eA h 0 26) (eA h 0 27) (eA h 0 31) (eA h 0 32) (eA h 0 37) (eA h 0 38)
def HC (h : HS) (d : Int) : Prop := CUR (eI h 0 36).toInt ((eI h 0 25).toInt + d) (eA h 0 32 (eI h 0 29).toInt.toNat).toInt (eA h 0 37) (eA h 0 38)
def EM (h : HS) (o v : Int32) : HS := sI (sA (sA h 0 37 (upd (eA h 0 37) (eI h 0 36).toInt.toNat o)) 0 38 (upd (eA h 0 38) (eI h 0 36).toInt.toNat v)) 0 36 (eI h 0 36 + 1)
theorem em_eq {h : HS} {o v : Int32} (h0 : 0 ≤ (eI h 0 36).toInt) (h1 : (eI h 0 36).toInt < 400) : f_X9_emits h o v = some (EM h o v) := by
  unfold f_X9_emits EM
  have e : (eI h 0 36).toNatClampNeg = (eI h 0 36).toInt.toNat := by rw [Int32.toNatClampNeg]
  rw [if_pos ⟨h0, h1⟩, if_pos ⟨h0, h1⟩, e]
theorem em_no {h : HS} (h0 : 0 ≤ (eI h 0 36).toInt) (h1 : (eI h 0 36).toInt < 400) : (eI h 0 36 + 1).toInt = (eI h 0 36).toInt + 1 := by
  have z1 : (1 : Int32).toInt = 1 := rfl
  rw [fb_addI (by omega) (by omega), z1]
theorem HK_em {h : HS} {b : Int} {o v : Int32} (k : HK h (b + 1)) (hb : -1 ≤ b) : HK (EM h o v) b := by
  obtain ⟨k1, k2, k3, k4, k5, k6, k7⟩ := k
  have e := em_no (h := h) k3 (by omega)
  show K0 (eI h 0 16).toInt (eI h 0 25).toInt (eI h 0 36 + 1).toInt (eI h 0 29).toInt (eI h 0 22).toInt b (eA h 0 23) (eA h 0 26) (eA h 0 27) (eA h 0 31) (eA h 0 32) (upd (eA h 0 37) (eI h 0 36).toInt.toNat o) (upd (eA h 0 38) (eI h 0 36).toInt.toNat v)
  rw [e]
  exact ⟨k1, k2, by omega, by omega, k5, GPs_em k6 k3, k7⟩
theorem HC_em {h : HS} {b d e : Int} {o v : Int32} (k : HK h b) (hb : -50 ≤ b) (c : HC h d) (hs : ST o v ((eI h 0 25).toInt + d) ((eI h 0 25).toInt + e)) : HC (EM h o v) e := by
  obtain ⟨k1, k2, k3, k4, k5, k6, k7⟩ := k
  have en := em_no (h := h) k3 (by omega)
  show CUR (eI h 0 36 + 1).toInt ((eI h 0 25).toInt + e) (eA h 0 32 (eI h 0 29).toInt.toNat).toInt (upd (eA h 0 37) (eI h 0 36).toInt.toNat o) (upd (eA h 0 38) (eI h 0 36).toInt.toNat v)
  rw [en]
  exact CUR_em c hs
/-! what a piece of the parser leaves -/
def PF (h c : HS) : Prop := (∀ k : Nat, (k < 14 ∨ (22 < k ∧ k < 25) ∨ (25 < k ∧ k < 28) ∨ (30 < k ∧ k < 36) ∨ 36 < k) → eI c 0 k = eI h 0 k) ∧ ∀ k : Nat, (k < 23 ∨ k = 25 ∨ (27 < k ∧ k < 31) ∨ k = 36 ∨ 38 < k) → eA c 0 k = eA h 0 k
theorem PF_refl (h : HS) : PF h h := ⟨fun _ _ => rfl, fun _ _ => rfl⟩
theorem PF_trans {a b c : HS} (x : PF a b) (y : PF b c) : PF a c := ⟨fun k hk => (y.1 k hk).trans (x.1 k hk), fun k hk => (y.2 k hk).trans (x.2 k hk)⟩
theorem eA_ne {h : HS} {a k : Nat} {x : Nat → Int32} (hk : ¬ k = a) : eA (sA h 0 a x) 0 k = eA h 0 k := by
  show (if (0 : Nat) = 0 then (if k = a then x else h.2.1 0 k) else h.2.1 0 k) = h.2.1 0 k
  rw [if_pos rfl, if_neg hk]
theorem PF_sI {h c : HS} {a : Nat} {x : Int32} (n : PF h c) (ha : (14 ≤ a ∧ a ≤ 22) ∨ a = 25 ∨ (28 ≤ a ∧ a ≤ 30) ∨ a = 36) : PF h (sI c 0 a x) := ⟨fun k hk => (eI_ne (by omega)).trans (n.1 k hk), n.2⟩
theorem PF_sA {h c : HS} {a : Nat} {x : Nat → Int32} (n : PF h c) (ha : (23 ≤ a ∧ a ≤ 24) ∨ (26 ≤ a ∧ a ≤ 27) ∨ (31 ≤ a ∧ a ≤ 35) ∨ a = 37 ∨ a = 38) : PF h (sA c 0 a x) := ⟨n.1, fun k hk => (eA_ne (by omega)).trans (n.2 k hk)⟩
theorem PF_NX {h c d : HS} (n : PF h c) (x : NX c d) : PF h d := ⟨fun k hk => (x.1 k (by omega)).trans (n.1 k hk), fun k hk => (x.2 k).trans (n.2 k hk)⟩
theorem PF_EM {h c : HS} {o v : Int32} (n : PF h c) : PF h (EM c o v) := PF_sI (PF_sA (PF_sA n (by omega)) (by omega)) (by omega)
theorem SM_PF {h0 h c : HS} (s : SM h0 h) (n : PF h c) : SM h0 c := SM_frame s (n.1 3 (by omega)) (n.1 47 (by omega)) (n.2 0 (by omega)) (n.2 1 (by omega)) (n.2 6 (by omega)) (n.2 7 (by omega)) (n.2 8 (by omega)) (n.2 12 (by omega)) (n.2 13 (by omega)) (n.2 48 (by omega)) (n.2 49 (by omega))
theorem HK_NX {h c : HS} {b b2 : Int} (k : HK h b) (x : NX h c) (hT : (eI h 0 16).toInt + (b2 - b) ≤ (eI c 0 16).toInt) (h3 : (eI c 0 16).toInt ≤ 300) : HK c b2 := by
  obtain ⟨k1, k2, k3, k4, k5, k6, k7⟩ := k
  unfold HK K0
  rw [x.1 25 (by omega), x.1 36 (by omega), x.1 29 (by omega), x.1 22 (by omega), x.2 23, x.2 26, x.2 27, x.2 31, x.2 32, x.2 37, x.2 38]
  exact ⟨k1, k2, k3, by omega, h3, k6, k7⟩
theorem HC_NX {h c : HS} {d : Int} (k : HC h d) (x : NX h c) : HC c d := by
  unfold HC at *
  rw [x.1 25 (by omega), x.1 36 (by omega), x.1 29 (by omega), x.2 32, x.2 37, x.2 38]
  exact k
/-! works -/
def FE (h c : HS) : Prop := (∀ k : Nat, ¬ k = 25 → ¬ k = 36 → eI c 0 k = eI h 0 k) ∧ ∀ k : Nat, ¬ k = 37 → ¬ k = 38 → eA c 0 k = eA h 0 k
theorem PF_FE {h c : HS} (x : FE h c) : PF h c := ⟨fun k hk => x.1 k (by omega) (by omega), fun k hk => x.2 k (by omega) (by omega)⟩
theorem FE_EM {h c : HS} {o v : Int32} (n : FE h c) : FE h (EM c o v) := ⟨fun k h1 h2 => (eI_ne h2).trans (n.1 k h1 h2), fun k h1 h2 => (eA_ne (h := sA c 0 37 _) h2).trans ((eA_ne h1).trans (n.2 k h1 h2))⟩
theorem FE_W {h c : HS} {x : Int32} (n : FE h c) : FE h (sI c 0 25 x) := ⟨fun k h1 h2 => (eI_ne h1).trans (n.1 k h1 h2), n.2⟩
theorem u_works_0 {h : HS} {d b : Int} (hd : 1 ≤ d ∧ d ≤ 3) (hb : 0 ≤ b) (x1 : Int32) : ∀ (n : Nat) (c : HS), FE h c → HK c b → HC c d → (eI c 0 25).toInt < n → ok (f_X9_works_0 n c x1) (fun a => FE h a ∧ HK a b ∧ HC a d ∧ ((eI a 0 25).toInt = 0 ∨ ¬ ((eA a 0 27 ((eI a 0 25).toInt.toNat - 1)).toInt = (eI a 0 22).toInt ∧ x1.toInt ≤ rk (eA a 0 26 ((eI a 0 25).toInt.toNat - 1))))) := by
  intro n
  induction n with
  | zero => intro c f k p hm; exact absurd hm (by have := k.1; omega)
  | succ n ih =>
    intro c f k p hm
    rw [f_X9_works_0_s]
    unfold f_X9_works_70
    have k1 := k.1
    have z0 : (0 : Int32).toInt = 0 := rfl; have z1 : (1 : Int32).toInt = 1 := rfl
    have w40 := WT_le k.2.1 k.2.2.2.2.2.2
    refine ok_if (fun c1 => ok_some ⟨f, k, p, Or.inl ?_⟩) (fun c1 => ?_)
    · have := gi_of_le c1; omega
    have d1 := gi_of_nle c1
    have a := fb_subI (x := eI c 0 25) (y := 1) (by omega) (by omega)
    have b1 : (eI c 0 25 - 1).toNatClampNeg = (eI c 0 25).toInt.toNat - 1 := by rw [Int32.toNatClampNeg]; omega
    rw [b1]
    have ck : 0 ≤ (eI c 0 25 - 1).toInt ∧ (eI c 0 25 - 1).toInt < 80 := by omega
    refine ok_chk ck ?_
    refine ok_if (fun c2 => ?_) (fun c2 => ok_some ⟨f, k, p, Or.inr (fun q => c2 (gi_eq q.1))⟩)
    refine ok_chk ck ?_
    refine ok_ob1 (u_rank _) (fun r5 k5 => ?_)
    refine ok_if (fun c3 => ok_some ⟨f, k, p, Or.inr (fun q => ?_)⟩) (fun c3 => ?_)
    · have := gi_of_lt c3
      have q2 := q.2
      rw [← k5] at q2
      omega
    refine ok_chk ck ?_
    obtain ⟨kk1, kk2, kk3, kk4, kk5, kk6, kk7⟩ := k
    have bn := (kk2 ((eI c 0 25).toInt.toNat - 1) (by omega)).1
    have k2 : HK (sI c 0 25 (eI c 0 25 - 1)) (b + 1) := by
      show K0 (eI c 0 16).toInt (eI c 0 25 - 1).toInt (eI c 0 36).toInt (eI c 0 29).toInt (eI c 0 22).toInt (b + 1) (eA c 0 23) (eA c 0 26) (eA c 0 27) (eA c 0 31) (eA c 0 32) (eA c 0 37) (eA c 0 38)
      rw [a, z1]
      exact ⟨by omega, WT_pop kk2 (by omega), kk3, by omega, kk5, kk6, kk7⟩
    have p2 : HC (sI c 0 25 (eI c 0 25 - 1)) (d + 1) := by
      show CUR (eI c 0 36).toInt ((eI c 0 25 - 1).toInt + (d + 1)) (eA c 0 32 (eI c 0 29).toInt.toNat).toInt (eA c 0 37) (eA c 0 38)
      rw [a, z1]
      have e : (eI c 0 25).toInt - 1 + (d + 1) = (eI c 0 25).toInt + d := by omega
      rw [e]; exact p
    have em := em_eq (h := sI c 0 25 (eI c 0 25 - 1)) (o := eA c 0 26 ((eI c 0 25).toInt.toNat - 1)) (v := 0) (show 0 ≤ (eI c 0 36).toInt from kk3) (show (eI c 0 36).toInt < 400 by omega)
    rw [em]
    show ok (f_X9_works_0 n (EM (sI c 0 25 (eI c 0 25 - 1)) _ 0) x1) _
    have st : ST (eA c 0 26 ((eI c 0 25).toInt.toNat - 1)) 0 ((eI (sI c 0 25 (eI c 0 25 - 1)) 0 25).toInt + (d + 1)) ((eI (sI c 0 25 (eI c 0 25 - 1)) 0 25).toInt + d) := by
      show ST _ 0 ((eI c 0 25 - 1).toInt + (d + 1)) ((eI c 0 25 - 1).toInt + d)
      exact Or.inr (Or.inr ⟨bn.1, bn.2.1, bn.2.2.1, bn.2.2.2.1, bn.2.2.2.2, by omega, by omega, by omega⟩)
    refine ih _ (FE_EM (FE_W f)) (HK_em k2 (by omega)) (HC_em k2 (by omega) p2 st) ?_
    show (eI c 0 25 - 1).toInt < n
    omega
theorem u_works {h : HS} {d b : Int} (x1 : Int32) (hd : 1 ≤ d ∧ d ≤ 3) (hb : 0 ≤ b) (k : HK h b) (p : HC h d) : ok (f_X9_works h x1) (fun a => FE h a ∧ HK a b ∧ HC a d ∧ ((eI a 0 25).toInt = 0 ∨ ¬ ((eA a 0 27 ((eI a 0 25).toInt.toNat - 1)).toInt = (eI a 0 22).toInt ∧ x1.toInt ≤ rk (eA a 0 26 ((eI a 0 25).toInt.toNat - 1))))) := by
  unfold f_X9_works
  refine u_works_0 hd hb x1 _ h ⟨fun _ _ _ => rfl, fun _ _ _ => rfl⟩ k p ?_
  have := WT_le k.2.1 k.2.2.2.2.2.2
  omega
theorem works_zero {h : HS} {x1 : Int32} (e : (eI h 0 25).toInt = 0) : f_X9_works h x1 = some h := by
  unfold f_X9_works
  rw [f_X9_works_0_s, if_pos (gi_le (by rw [e]; decide))]
  rfl
