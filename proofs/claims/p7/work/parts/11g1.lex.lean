/-! tokens: what stands on a tape, told without either program -/
def isBl (b : Int) : Prop := b = 32 ∨ b = 10
def isAl (b : Int) : Prop := (97 ≤ b ∧ b ≤ 122) ∨ (65 ≤ b ∧ b ≤ 90)
def isNu (b : Int) : Prop := 48 ≤ b ∧ b ≤ 57
def seg (B : Int → Int) : Int → Nat → List Int
  | _, 0 => []
  | s, n + 1 => B s :: seg B (s + 1) n
def flat : List (List Int) → List Int
  | [] => []
  | w :: r => w ++ 32 :: flat r
def wf : List (List Int) → List Int → Int → Int
  | [], _, _ => 1
  | w :: r, x, k => if x = w then 16 + k else wf r x (k + 1)
def wm : List Int → Int → Int → Int
  | [], _, _ => -1
  | c :: r, v, k => if v = c then k else wm r v (k + 1)
def WL : List (List Int) := [[98, 117, 116, 99, 104, 101, 114], [114, 101, 97, 100, 101, 114], [105, 110, 107], [99, 111, 100, 101], [102, 105, 108, 108], [115, 101, 110, 100], [102, 97, 116, 116, 101, 110], [112, 97, 115, 115], [119, 105, 116, 104], [116, 111], [111, 114], [97, 110, 100], [110, 111, 116], [103, 111, 111, 115, 101], [119, 101, 105, 103, 104, 116], [102, 101, 97, 116, 104, 101, 114, 115], [108, 101, 116, 116, 101, 114], [112, 97, 114, 116], [100, 97, 121], [109, 97, 114, 107, 101, 116], [103, 114, 101, 101, 100], [101, 121, 101, 115]]
def WC : List Int := [2394252282226, 54316648818, 170923, 9369893, 10132268, 13523876, 41369684334, 12721395, 14589224, 3375, 3058, 138148, 191476, 666828005, 59687467572, 169704704597171, 47879244146, 12721332, 149625, 48885315956, 667572580, 9935219]
def WB : List Int := gWb.map (fun c => (c &&& 255).toInt)
theorem WB_flat : WB = flat WL := by decide +kernel
theorem WB_len : WB.length = 121 := by decide +kernel
def wkind (x : List Int) : Int := wf WL x 0
def scan : List Int → List Int → List Int → Bool → Int → Int
  | [], _, _, _, _ => 1
  | c :: cs, x, rm, sm, k => if c = 32 then (if sm = true ∧ rm = [] then 16 + k else scan cs x x true (k + 1)) else
      (match rm with
      | [] => scan cs x [] false k
      | b :: r => scan cs x r (sm && decide (b = c)) k)
theorem scan_bl (cs x rm : List Int) (sm : Bool) (k : Int) : scan (32 :: cs) x rm sm k = if sm = true ∧ rm = [] then 16 + k else scan cs x x true (k + 1) := by
  simp [scan]
theorem scan_c0 {c : Int} (hc : ¬ c = 32) (cs x : List Int) (sm : Bool) (k : Int) : scan (c :: cs) x [] sm k = scan cs x [] false k := by
  simp [scan, hc]
theorem scan_c1 {c : Int} (hc : ¬ c = 32) (cs x r : List Int) (b : Int) (sm : Bool) (k : Int) : scan (c :: cs) x (b :: r) sm k = scan cs x r (sm && decide (b = c)) k := by
  simp [scan, hc]
theorem scan_word : ∀ (w rest x rm : List Int) (sm : Bool) (k : Int), (∀ c ∈ w, ¬ c = 32) → scan (w ++ 32 :: rest) x rm sm k = if sm = true ∧ rm = w then 16 + k else scan rest x x true (k + 1) := by
  intro w
  induction w with
  | nil => intro rest x rm sm k _; exact scan_bl rest x rm sm k
  | cons c w ih =>
    intro rest x rm sm k hw
    have hc : ¬ c = 32 := hw c List.mem_cons_self
    have hw' : ∀ d ∈ w, ¬ d = 32 := fun d hd => hw d (List.mem_cons_of_mem _ hd)
    cases rm with
    | nil =>
      rw [List.cons_append, scan_c0 hc, ih _ _ _ _ _ hw', if_neg (by simp), if_neg (by simp)]
    | cons b r =>
      rw [List.cons_append, scan_c1 hc, ih _ _ _ _ _ hw']
      by_cases h1 : sm = true
      · by_cases h2 : b = c
        · subst h2
          by_cases h3 : r = w
          · rw [if_pos (by simp [h1, h3]), if_pos (by simp [h1, h3])]
          · rw [if_neg (by simp [h3]), if_neg (by simp [h3])]
        · rw [if_neg (by simp [h2]), if_neg (by simp [h2])]
      · rw [if_neg (by simp [h1]), if_neg (by simp [h1])]
theorem scan_flat : ∀ (ws : List (List Int)) (x : List Int) (k : Int), (∀ w ∈ ws, ∀ c ∈ w, ¬ c = 32) → scan (flat ws) x x true k = wf ws x k := by
  intro ws
  induction ws with
  | nil => intro x k _; rfl
  | cons w r ih =>
    intro x k hw
    show scan (w ++ 32 :: flat r) x x true k = if x = w then 16 + k else wf r x (k + 1)
    rw [scan_word w _ _ _ _ _ (hw w List.mem_cons_self), ih x (k + 1) (fun v hv => hw v (List.mem_cons_of_mem _ hv))]
    by_cases h : x = w
    · rw [if_pos ⟨rfl, h⟩, if_pos h]
    · rw [if_neg (fun q => h q.2), if_neg h]
theorem scan_WB (x : List Int) : scan WB x x true 0 = wkind x := by
  rw [WB_flat]
  exact scan_flat WL x 0 (by decide +kernel)
theorem wf_rng : ∀ (ws : List (List Int)) (x : List Int) (k : Int), wf ws x k = 1 ∨ (16 + k ≤ wf ws x k ∧ wf ws x k < 16 + k + (ws.length : Int)) := by
  intro ws
  induction ws with
  | nil => intro x k; exact Or.inl rfl
  | cons w r ih =>
    intro x k
    show (if x = w then 16 + k else wf r x (k + 1)) = 1 ∨ (16 + k ≤ (if x = w then 16 + k else wf r x (k + 1)) ∧ (if x = w then 16 + k else wf r x (k + 1)) < 16 + k + ((w :: r).length : Int))
    rw [List.length_cons]
    by_cases h : x = w
    · rw [if_pos h]; right; omega
    · rw [if_neg h]
      rcases ih x (k + 1) with e | e
      · exact Or.inl e
      · right; omega
theorem wkind_rng (x : List Int) : wkind x = 1 ∨ (16 ≤ wkind x ∧ wkind x ≤ 37) := by
  have h := wf_rng WL x 0
  have l : (WL.length : Int) = 22 := by decide +kernel
  unfold wkind
  omega
theorem wf_long : ∀ (ws : List (List Int)) (x : List Int) (k : Int), (∀ w ∈ ws, w.length ≤ 8) → 8 < x.length → wf ws x k = 1 := by
  intro ws
  induction ws with
  | nil => intro x k _ _; rfl
  | cons w r ih =>
    intro x k hw hx
    show (if x = w then 16 + k else wf r x (k + 1)) = 1
    rw [if_neg (fun e => by have := hw w List.mem_cons_self; rw [← e] at this; omega)]
    exact ih x (k + 1) (fun v hv => hw v (List.mem_cons_of_mem _ hv)) hx
theorem wkind_long {x : List Int} (h : 8 < x.length) : wkind x = 1 := wf_long WL x 0 (by decide +kernel) h
def encA : Int → List Int → Int
  | a, [] => a
  | a, b :: r => encA (64 * a + b - 64) r
def encR : List Int → Int
  | [] => 0
  | b :: r => 64 * encR r + (b - 64)
theorem encA_R : ∀ (x y : List Int), encA (encR y) x = encR (x.reverse ++ y) := by
  intro x
  induction x with
  | nil => intro y; rfl
  | cons b r ih =>
    intro y
    show encA (64 * encR y + b - 64) r = _
    have e : 64 * encR y + b - 64 = encR (b :: y) := by show _ = 64 * encR y + (b - 64); omega
    rw [e, ih (b :: y), List.reverse_cons, List.append_assoc]
    rfl
def DG (x : List Int) : Prop := ∀ b ∈ x, 65 ≤ b ∧ b ≤ 122
theorem encR_nn : ∀ (x : List Int), DG x → 0 ≤ encR x := by
  intro x
  induction x with
  | nil => intro _; exact Int.le_refl 0
  | cons b r ih =>
    intro h
    have h1 := ih (fun c hc => h c (List.mem_cons_of_mem _ hc))
    have h2 := h b List.mem_cons_self
    show 0 ≤ 64 * encR r + (b - 64)
    omega
theorem encR_inj : ∀ (x y : List Int), DG x → DG y → encR x = encR y → x = y := by
  intro x
  induction x with
  | nil =>
    intro y _ hy e
    cases y with
    | nil => rfl
    | cons b r =>
      exfalso
      have h1 := encR_nn r (fun c hc => hy c (List.mem_cons_of_mem _ hc))
      have h2 := hy b List.mem_cons_self
      have e : (0 : Int) = 64 * encR r + (b - 64) := e
      omega
  | cons a x ih =>
    intro y hx hy e
    have h3 := encR_nn x (fun c hc => hx c (List.mem_cons_of_mem _ hc))
    have h4 := hx a List.mem_cons_self
    cases y with
    | nil =>
      exfalso
      have e : 64 * encR x + (a - 64) = (0 : Int) := e
      omega
    | cons b r =>
      have h2 := hy b List.mem_cons_self
      have e : 64 * encR x + (a - 64) = 64 * encR r + (b - 64) := e
      have e1 : encR x = encR r := by omega
      have e2 : a = b := by omega
      rw [ih r (fun c hc => hx c (List.mem_cons_of_mem _ hc)) (fun c hc => hy c (List.mem_cons_of_mem _ hc)) e1, e2]
theorem encA_inj {x y : List Int} (hx : DG x) (hy : DG y) (e : encA 0 x = encA 0 y) : x = y := by
  have e1 : encA (encR []) x = encA (encR []) y := e
  rw [encA_R, encA_R, List.append_nil, List.append_nil] at e1
  have := encR_inj _ _ (fun b hb => hx b (List.mem_reverse.mp hb)) (fun b hb => hy b (List.mem_reverse.mp hb)) e1
  exact List.reverse_inj.mp this
theorem wm_wf : ∀ (ws : List (List Int)) (x : List Int) (k : Int), DG x → (∀ w ∈ ws, DG w) → 0 ≤ k → (wm (ws.map (encA 0)) (encA 0 x) k = -1 ∧ wf ws x k = 1) ∨ (k ≤ wm (ws.map (encA 0)) (encA 0 x) k ∧ wf ws x k = 16 + wm (ws.map (encA 0)) (encA 0 x) k) := by
  intro ws
  induction ws with
  | nil => intro x k _ _ _; exact Or.inl ⟨rfl, rfl⟩
  | cons w r ih =>
    intro x k hx hw hk
    show ((if encA 0 x = encA 0 w then k else wm (r.map (encA 0)) (encA 0 x) (k + 1)) = -1 ∧ (if x = w then 16 + k else wf r x (k + 1)) = 1) ∨ (k ≤ (if encA 0 x = encA 0 w then k else wm (r.map (encA 0)) (encA 0 x) (k + 1)) ∧ (if x = w then 16 + k else wf r x (k + 1)) = 16 + (if encA 0 x = encA 0 w then k else wm (r.map (encA 0)) (encA 0 x) (k + 1)))
    by_cases h : x = w
    · rw [if_pos h, if_pos (by rw [h])]; right; omega
    · rw [if_neg h, if_neg (fun e => h (encA_inj hx (hw w List.mem_cons_self) e))]
      rcases ih x (k + 1) hx (fun v hv => hw v (List.mem_cons_of_mem _ hv)) (by omega) with e | e
      · exact Or.inl e
      · right; omega
theorem WC_WL : WC = WL.map (encA 0) := by decide +kernel
theorem WL_DG : ∀ w ∈ WL, DG w := by
  have h : ∀ w ∈ WL, ∀ b ∈ w, 65 ≤ b ∧ b ≤ 122 := by decide +kernel
  exact h
theorem lg_eq {x y : Int64} : lg_cmp x y = 0 ↔ x.toInt = y.toInt := by
  unfold lg_cmp
  constructor
  · intro h
    by_cases c1 : x > y
    · rw [if_pos c1] at h; exact absurd h (by decide)
    · rw [if_neg c1] at h
      by_cases c2 : x = y
      · rw [c2]
      · rw [if_neg c2] at h; exact absurd h (by decide)
  · intro h
    have e : x = y := Int64.toInt_inj.mp h
    subst e
    by_cases c1 : x > x
    · exact absurd (Int64.lt_iff_toInt_lt.mp c1) (by omega)
    · rw [if_neg c1, if_pos rfl]
theorem wo_step {p1 C : Int64} {c k : Int} {K : Int32} {r : List Int} {x : Option Int32} (hc : C.toInt = c) (hk : K.toInt = k) (h : pk x (fun a => a.toInt = wm r p1.toInt (k + 1))) : pk (if lg_cmp p1 C = 0 then some K else x) (fun a => a.toInt = wm (c :: r) p1.toInt k) := by
  refine pk_if (fun e => pk_some ?_) (fun e => ?_)
  · show K.toInt = if p1.toInt = c then k else wm r p1.toInt (k + 1)
    rw [if_pos ((lg_eq.mp e).trans hc), hk]
  · refine pk_mono h (fun a ha => ?_)
    show a.toInt = if p1.toInt = c then k else wm r p1.toInt (k + 1)
    rw [if_neg (fun q => e (lg_eq.mpr (q.trans hc.symm)))]
    exact ha
set_option maxRecDepth 100000 in
theorem mx_wordOf (p1 : Int64) : pk (f_X9_wordOf p1) (fun a => a.toInt = wm WC p1.toInt 0) := by
  unfold f_X9_wordOf WC
  refine wo_step rfl rfl ?_
  refine wo_step rfl rfl ?_
  refine wo_step rfl rfl ?_
  refine wo_step rfl rfl ?_
  refine wo_step rfl rfl ?_
  refine wo_step rfl rfl ?_
  refine wo_step rfl rfl ?_
  refine wo_step rfl rfl ?_
  refine wo_step rfl rfl ?_
  refine wo_step rfl rfl ?_
  refine wo_step rfl rfl ?_
  refine wo_step rfl rfl ?_
  refine wo_step rfl rfl ?_
  refine wo_step rfl rfl ?_
  refine wo_step rfl rfl ?_
  refine wo_step rfl rfl ?_
  refine wo_step rfl rfl ?_
  refine wo_step rfl rfl ?_
  refine wo_step rfl rfl ?_
  refine wo_step rfl rfl ?_
  refine wo_step rfl rfl ?_
  refine wo_step rfl rfl ?_
  exact pk_some rfl
def nvC : Int → List Int → Int
  | a, [] => a
  | a, b :: r => nvC (if a * 10 + b - 48 < 10000 then a * 10 + b - 48 else 10000) r
def nvM : Int → List Int → Int
  | a, [] => a
  | a, b :: r => nvM (if a ≤ 99999 then 10 * a + b - 48 else a) r
def NR (v t : Int) : Prop := (v = t ∧ 0 ≤ t ∧ t ≤ 9999) ∨ (v = 10000 ∧ 10000 ≤ t ∧ t ≤ 1000000)
theorem nv_rel : ∀ (x : List Int) (a b : Int), (∀ c ∈ x, isNu c) → NR a b → NR (nvC a x) (nvM b x) := by
  intro x
  induction x with
  | nil => intro a b _ h; exact h
  | cons d r ih =>
    intro a b hx h
    have hd := hx d List.mem_cons_self
    refine ih _ _ (fun c hc => hx c (List.mem_cons_of_mem _ hc)) ?_
    unfold NR isNu at *
    by_cases c1 : a * 10 + d - 48 < 10000
    · rw [if_pos c1]
      by_cases c2 : b ≤ 99999
      · rw [if_pos c2]; omega
      · rw [if_neg c2]; omega
    · rw [if_neg c1]
      by_cases c2 : b ≤ 99999
      · rw [if_pos c2]; omega
      · rw [if_neg c2]; omega
def skind (b : Int) : Int := if b = 60 then 3 else if b = 62 then 5 else if b = 61 then 7 else if b = 35 then 8 else if b = 43 then 9 else if b = 45 then 10 else if b = 42 then 11 else if b = 47 then 12 else if b = 40 then 13 else if b = 41 then 14 else if b = 59 then 15 else 1
theorem skind_spec (b : Int) : (b = 60 ∧ skind b = 3) ∨ (b = 62 ∧ skind b = 5) ∨ (b = 61 ∧ skind b = 7) ∨ (b = 35 ∧ skind b = 8) ∨ (b = 43 ∧ skind b = 9) ∨ (b = 45 ∧ skind b = 10) ∨ (b = 42 ∧ skind b = 11) ∨ (b = 47 ∧ skind b = 12) ∨ (b = 40 ∧ skind b = 13) ∨ (b = 41 ∧ skind b = 14) ∨ (b = 59 ∧ skind b = 15) ∨ ((¬ b = 60 ∧ ¬ b = 62 ∧ ¬ b = 61 ∧ ¬ b = 35 ∧ ¬ b = 43 ∧ ¬ b = 45 ∧ ¬ b = 42 ∧ ¬ b = 47 ∧ ¬ b = 40 ∧ ¬ b = 41 ∧ ¬ b = 59) ∧ skind b = 1) := by
  unfold skind
  by_cases h0 : b = 60
  · rw [if_pos h0]; exact Or.inl ⟨h0, rfl⟩
  rw [if_neg h0]
  by_cases h1 : b = 62
  · rw [if_pos h1]; exact Or.inr (Or.inl ⟨h1, rfl⟩)
  rw [if_neg h1]
  by_cases h2 : b = 61
  · rw [if_pos h2]; exact Or.inr (Or.inr (Or.inl ⟨h2, rfl⟩))
  rw [if_neg h2]
  by_cases h3 : b = 35
  · rw [if_pos h3]; exact Or.inr (Or.inr (Or.inr (Or.inl ⟨h3, rfl⟩)))
  rw [if_neg h3]
  by_cases h4 : b = 43
  · rw [if_pos h4]; exact Or.inr (Or.inr (Or.inr (Or.inr (Or.inl ⟨h4, rfl⟩))))
  rw [if_neg h4]
  by_cases h5 : b = 45
  · rw [if_pos h5]; exact Or.inr (Or.inr (Or.inr (Or.inr (Or.inr (Or.inl ⟨h5, rfl⟩)))))
  rw [if_neg h5]
  by_cases h6 : b = 42
  · rw [if_pos h6]; exact Or.inr (Or.inr (Or.inr (Or.inr (Or.inr (Or.inr (Or.inl ⟨h6, rfl⟩))))))
  rw [if_neg h6]
  by_cases h7 : b = 47
  · rw [if_pos h7]; exact Or.inr (Or.inr (Or.inr (Or.inr (Or.inr (Or.inr (Or.inr (Or.inl ⟨h7, rfl⟩)))))))
  rw [if_neg h7]
  by_cases h8 : b = 40
  · rw [if_pos h8]; exact Or.inr (Or.inr (Or.inr (Or.inr (Or.inr (Or.inr (Or.inr (Or.inr (Or.inl ⟨h8, rfl⟩))))))))
  rw [if_neg h8]
  by_cases h9 : b = 41
  · rw [if_pos h9]; exact Or.inr (Or.inr (Or.inr (Or.inr (Or.inr (Or.inr (Or.inr (Or.inr (Or.inr (Or.inl ⟨h9, rfl⟩)))))))))
  rw [if_neg h9]
  by_cases h10 : b = 59
  · rw [if_pos h10]; exact Or.inr (Or.inr (Or.inr (Or.inr (Or.inr (Or.inr (Or.inr (Or.inr (Or.inr (Or.inr (Or.inl ⟨h10, rfl⟩))))))))))
  rw [if_neg h10]
  exact Or.inr (Or.inr (Or.inr (Or.inr (Or.inr (Or.inr (Or.inr (Or.inr (Or.inr (Or.inr (Or.inr (⟨⟨h0, h1, h2, h3, h4, h5, h6, h7, h8, h9, h10⟩, rfl⟩)))))))))))
theorem skind_rng (b : Int) : 1 ≤ skind b ∧ skind b ≤ 15 := by
  have := skind_spec b
  omega
def TokL (B : Int → Int) (L s : Int) : Prop := (skind (B s) = 3 ∨ skind (B s) = 5) ∧ s + 1 < L ∧ B (s + 1) = 61
def TokE (L k s q : Int) : Prop := s = L ∧ k = 0 ∧ q = L
def TokW (B : Int → Int) (L k s q : Int) : Prop := s < L ∧ isAl (B s) ∧ s < q ∧ q ≤ L ∧ (∀ j : Int, s ≤ j → j < q → isAl (B j)) ∧ (q = L ∨ ¬ isAl (B q)) ∧ k = wkind (seg B s (q - s).toNat)
def TokN (B : Int → Int) (L k s v q : Int) : Prop := s < L ∧ isNu (B s) ∧ s < q ∧ q ≤ L ∧ (∀ j : Int, s ≤ j → j < q → isNu (B j)) ∧ (q = L ∨ ¬ isNu (B q)) ∧ k = 2 ∧ v = nvC 0 (seg B s (q - s).toNat)
def TokS (B : Int → Int) (L k s q : Int) : Prop := s < L ∧ ¬ isBl (B s) ∧ ¬ isAl (B s) ∧ ¬ isNu (B s) ∧ ((TokL B L s ∧ k = skind (B s) + 1 ∧ q = s + 2) ∨ (¬ TokL B L s ∧ k = skind (B s) ∧ q = s + 1))
def Tok (B : Int → Int) (L p k s v q : Int) : Prop := p ≤ s ∧ s ≤ L ∧ (∀ j : Int, p ≤ j → j < s → isBl (B j)) ∧ (TokE L k s q ∨ TokW B L k s q ∨ TokN B L k s v q ∨ TokS B L k s q)
def SG (k t : Int) : Prop := (k = 3 ∧ t = 60) ∨ (k = 4 ∧ t = 300) ∨ (k = 5 ∧ t = 62) ∨ (k = 6 ∧ t = 301) ∨ (k = 7 ∧ t = 61) ∨ (k = 8 ∧ t = 35) ∨ (k = 9 ∧ t = 43) ∨ (k = 10 ∧ t = 45) ∨ (k = 11 ∧ t = 42) ∨ (k = 12 ∧ t = 47) ∨ (k = 13 ∧ t = 40) ∨ (k = 14 ∧ t = 41) ∨ (k = 15 ∧ t = 59)
def TK (k v so t : Int) : Prop := (k = 0 ∧ so = 0) ∨ (k = 2 ∧ so = 2 ∧ NR v t) ∨ (16 ≤ k ∧ k ≤ 37 ∧ so = 1 ∧ t = k - 16) ∨ (k = 1 ∧ (so = 4 ∨ (so = 3 ∧ t = 44))) ∨ (so = 3 ∧ SG k t)
theorem seg_len (B : Int → Int) : ∀ (n : Nat) (s : Int), (seg B s n).length = n := by
  intro n
  induction n with
  | zero => intro s; rfl
  | succ n ih => intro s; show (seg B (s + 1) n).length + 1 = n + 1; rw [ih]
theorem seg_all {B : Int → Int} {P : Int → Prop} : ∀ (n : Nat) (s : Int), (∀ j : Int, s ≤ j → j < s + (n : Int) → P (B j)) → ∀ b ∈ seg B s n, P b := by
  intro n
  induction n with
  | zero => intro s _ b hb; exact absurd hb List.not_mem_nil
  | succ n ih =>
    intro s h b hb
    rcases List.mem_cons.mp hb with e | hb
    · rw [e]; exact h s (by omega) (by omega)
    · exact ih (s + 1) (fun j h1 h2 => h j (by omega) (by omega)) b hb
