/-! THE CLAIM OUT OF ONE WALK OF THE LAW'S BODY. Your part is whole_start (and what it stands on); all else here is the same for every law, but numbers. -/
def R_law : String := "GooseLettersLaw"
def lw_P (b : Addr) (xs : List Int32) (args : Array Value) (s : State) : Prop := args = #[.ref b] ∧ s.IntsAt b xs ∧ xs.length ≤ 3072 ∧ (Jvm.Cond.and given_1 narrow_1).before args s = true
def lw_Q (_ : Array Value) (s : State) (o : Outcome) (t : State) : Prop := o = .returned (some (.int 1)) ∧ Framed s o t [] 600000 7302249
def lw_Z (below : List Frame) (a : Array Value) (s : State) : State → Prop := fun t => ∃ o, t.status = .running ∧ Ended t below o ∧ lw_Q a s o t
/-- the law's own end, with 1 on the stack, nothing written that was there before, its room as the claim has it -/
theorem lw_ret {p : Program} {l : Launch} {e : Env} {s : State} {m : MethodId} {below : List Frame} {meth : Method} {c : Code} {b : Nat} (hx : p.tables.exec = Jvm.exec) (hb : c.code = code) (hr : meth.sig.returnType = ret) (hlocks : meth.locks = false) {pc : Nat} {H : Heap} {ls : Array Slot} (hdg : decode code pc = .ok (.ireturn, 1)) : W p l e room_1 s m #[Value.ref b] below meth c H [] 600000 7302249 (lw_Z below #[Value.ref b] s) (F0 m pc ls [.int 1]) := by
  intro T hT X
  obtain ⟨fs, hret, hrun, hended, hW, hframe⟩ := X.leave (v := some (.int 1)) (hlocks := hlocks) (fun h => by rw [hr] at h; cases h)
  have hmeth' : T.vm.method? m = some meth := X.method'
  refine ⟨T.setFrames fs, ?_, .returned (some (.int 1)), hrun, hended, rfl, ⟨_, rfl⟩, hW, hframe⟩
  jvm_step X.here [X.here.top, hx, hb, hdg, hmeth', hr, ret, narrow_b1]
  (try refine ⟨rfl, ?_⟩); (try refine ⟨rfl, ?_⟩)
  first | (intro acts; rw [hret _ acts rfl rfl rfl]) | rw [hret _ _ rfl rfl rfl]
  exact Steps.refl _
/-- what holds at the law's entry: the machine, the code, the tables' words (any of lw_tbl by 'hts w (by decide +kernel)'), the script of L ints xs at the cell b, what the Statement gives of the start (any of its parts by flat_of_before) -/
def lw_At (p : Program) (s : State) (m : MethodId) (meth : Method) (c : Code) (b L : Nat) (xs : Nat → Int32) : Prop :=
  p.tables.exec = Jvm.exec ∧ c.code = code ∧ meth.sig.returnType = ret ∧ c.maxLocals = 4 ∧ s.vm.findClass R_law = some m.cls ∧ (∀ w ∈ lw_tbl, w.before #[Value.ref b] s = true) ∧ va_X b L xs s s.heap ∧ b < s.heap.size ∧ meth.locks = false ∧ (Jvm.Cond.and given_1 narrow_1).before #[Value.ref b] s = true
theorem gw_sld {p : Program} {l : Launch} {e : Env} {R : Room} {s : State} {m : MethodId} {args : Array Value} {below : List Frame} {meth : Method} {c : Code} {H H0 : Heap} {locs : List Loc} {cells slots pc : Nat} {Q : State → Prop} {ls : Array Slot} {rest : List Value} {A : Nat → Prop} {cc : ByteArray} (hx : p.tables.exec = Jvm.exec) (hb : c.code = cc) {b L : Nat} {xs : Nat → Int32} (hX : va_X b L xs s H0) (hbl : b < H0.size) (hbA : ¬ A b) (hS : va_S A H0 H locs) (k : Nat) {i : Int32} (hi : i = nI k) (hk : k < L) (hL : L < 2 ^ 31) (hdg : decode cc pc = .ok (.iaload, 1)) (kk : W p l e R s m args below meth c H locs cells slots Q (F0 m (pc + 1) ls (.int (xs k) :: rest))) : W p l e R s m args below meth c H locs cells slots Q (F0 m pc ls (.int i :: .ref b :: rest)) := by
  subst hi
  refine va_sld hx hb hX hbl hbA hS (vp_in_nI hk hL) hdg ?_
  rw [nI_clamp (by omega)]
  exact kk
def LS_market (cmp : Prop) (Inv : HS → HS → Prop) : Prop := ∀ (h g : HS) (p1 p2 p3 : Int32) , Inv h g → ∃ (r1 : Int32) (h1 : HS) (r2 : Int32) (g1 : HS), f_X8_market h p1 p2 p3 = some (r1, h1) ∧ f_X9_market g p1 p2 p3 = some (r2, g1) ∧ Inv h1 g1 ∧ (cmp → r1 = r2)
def LS_goose (cmp : Prop) (Inv : HS → HS → Prop) : Prop := ∀ (h g : HS) (p1 p2 : Int32) , Inv h g → ∃ (r1 : Int32) (h1 : HS) (r2 : Int32) (g1 : HS), f_X8_goose h p1 p2 = some (r1, h1) ∧ f_X9_goose g p1 p2 = some (r2, g1) ∧ Inv h1 g1 ∧ (cmp → r1 = r2)
def LS_store (cmp : Prop) (Inv : HS → HS → Prop) : Prop := ∀ (h g : HS) (p1 p2 : Int32) , Inv h g → ∃ (r1 : Int32) (h1 : HS) (r2 : Int32) (g1 : HS), f_X8_store h p1 p2 = some (r1, h1) ∧ f_X9_store g p1 p2 = some (r2, g1) ∧ Inv h1 g1 ∧ (cmp → r1 = r2)
def LS_seed (cmp : Prop) (Inv : HS → HS → Prop) : Prop := ∀ (h g : HS) (p1 : Int32) , Inv h g → ∃ (r1 : Int32) (h1 : HS) (r2 : Int32) (g1 : HS), f_X8_seed h p1 = some (r1, h1) ∧ f_X9_seed g p1 = some (r2, g1) ∧ Inv h1 g1 ∧ (cmp → r1 = r2)
def LS_fill (cmp : Prop) (Inv : HS → HS → Prop) : Prop := ∀ (h g : HS) (p1 p2 p3 : Int32) , Inv h g → ∃ (r1 : Int32) (h1 : HS) (r2 : Int32) (g1 : HS), f_X8_fill h p1 p2 p3 = some (r1, h1) ∧ f_X9_fill g p1 p2 p3 = some (r2, g1) ∧ Inv h1 g1 ∧ (cmp → r1 = r2)
def LS_send (cmp : Prop) (Inv : HS → HS → Prop) : Prop := ∀ (h g : HS) (p1 p2 : Int32) , Inv h g → ∃ (r1 : Int32) (h1 : HS) (r2 : Int32) (g1 : HS), f_X8_send h p1 p2 = some (r1, h1) ∧ f_X9_send g p1 p2 = some (r2, g1) ∧ Inv h1 g1 ∧ (cmp → r1 = r2)
def LS_fatten (cmp : Prop) (Inv : HS → HS → Prop) : Prop := ∀ (h g : HS) (p1 : Int32) , Inv h g → ∃ (r1 : Int32) (h1 : HS) (r2 : Int32) (g1 : HS), f_X8_fatten h p1 = some (r1, h1) ∧ f_X9_fatten g p1 = some (r2, g1) ∧ Inv h1 g1 ∧ (cmp → r1 = r2)
def LS_pluck (cmp : Prop) (Inv : HS → HS → Prop) : Prop := ∀ (h g : HS) (p1 : Int32) , Inv h g → ∃ (r1 : Int32) (h1 : HS) (r2 : Int32) (g1 : HS), f_X8_pluck h p1 = some (r1, h1) ∧ f_X9_pluck g p1 = some (r2, g1) ∧ Inv h1 g1 ∧ (cmp → r1 = r2)
def LS_name (cmp : Prop) (Inv : HS → HS → Prop) : Prop := ∀ (h g : HS) (p1 : Int32) , Inv h g → ∃ (r1 : Int32) (h1 : HS) (r2 : Int32) (g1 : HS), f_X8_name h p1 = some (r1, h1) ∧ f_X9_name g p1 = some (r2, g1) ∧ Inv h1 g1 ∧ (cmp → r1 = r2)
def LS_pass (cmp : Prop) (Inv : HS → HS → Prop) : Prop := ∀ (h g : HS) (p1 : Int32) , Inv h g → ∃ (r1 : Int32) (h1 : HS) (r2 : Int32) (g1 : HS), f_X8_pass h p1 = some (r1, h1) ∧ f_X9_pass g p1 = some (r2, g1) ∧ Inv h1 g1 ∧ (cmp → r1 = r2)
def LS_feed (cmp : Prop) (Inv : HS → HS → Prop) : Prop := ∀ (h g : HS) (p1 p2 p3 p4 p5 : Int32) , Inv h g → ∃ (r1 : Int32) (h1 : HS) (r2 : Int32) (g1 : HS), f_X8_feed h p1 p2 p3 p4 p5 = some (r1, h1) ∧ f_X9_feed g p1 p2 p3 p4 p5 = some (r2, g1) ∧ Inv h1 g1 ∧ (cmp → r1 = r2)
def LS_end (cmp : Prop) (Inv : HS → HS → Prop) : Prop := ∀ (h g : HS) (p1 : Int32) , Inv h g → ∃ (r1 : Int32) (h1 : HS) (r2 : Int32) (g1 : HS), f_X8_end h p1 = some (r1, h1) ∧ f_X9_end g p1 = some (r2, g1) ∧ Inv h1 g1 ∧ (cmp → r1 = r2)
def LS_text (cmp : Prop) (Inv : HS → HS → Prop) : Prop := ∀ (h g : HS) , Inv h g → ∃ (r1 : Int32) (h1 : HS) (r2 : Int32) (g1 : HS), f_X8_text h  = some (r1, h1) ∧ f_X9_text g  = some (r2, g1) ∧ Inv h1 g1 ∧ (cmp → r1 = r2)
def LS_fault (cmp : Prop) (Inv : HS → HS → Prop) : Prop := ∀ (h g : HS) (p1 : Int32) , Inv h g → ∃ (r1 : Int32) (h1 : HS) (r2 : Int32) (g1 : HS), f_X8_fault h p1 = some (r1, h1) ∧ f_X9_fault g p1 = some (r2, g1) ∧ Inv h1 g1 ∧ (cmp → r1 = r2)
def LS_by (cmp : Prop) (Inv : HS → HS → Prop) : Prop := ∀ (h g : HS) (p1 : Int32) , Inv h g → ∃ (r1 : Int32) (h1 : HS) (r2 : Int32) (g1 : HS), f_X8_by h p1 = some (r1, h1) ∧ f_X9_by g p1 = some (r2, g1) ∧ Inv h1 g1 ∧ (cmp → r1 = r2)
def LS_played (cmp : Prop) (Inv : HS → HS → Prop) : Prop := ∀ (h g : HS) (p1 : Int32) , Inv h g → ∃ (r1 : Int32) (h1 : HS) (r2 : Int32) (g1 : HS), f_X8_played h p1 = some (r1, h1) ∧ f_X9_played g p1 = some (r2, g1) ∧ Inv h1 g1 ∧ (cmp → r1 = r2)
def LS_undo (cmp : Prop) (Inv : HS → HS → Prop) : Prop := ∀ (h g : HS) , Inv h g → ∃ (r1 : Int32) (h1 : HS) (r2 : Int32) (g1 : HS), f_X8_undo h  = some (r1, h1) ∧ f_X9_undo g  = some (r2, g1) ∧ Inv h1 g1 ∧ (cmp → r1 = r2)
def LS_of (cmp : Prop) (Inv : HS → HS → Prop) : Prop := ∀ (h g : HS) (p1 p2 : Int32) , Inv h g → ∃ (r1 : Int32) (h1 : HS) (r2 : Int32) (g1 : HS), f_X8_of h p1 p2 = some (r1, h1) ∧ f_X9_of g p1 p2 = some (r2, g1) ∧ Inv h1 g1 ∧ (cmp → r1 = r2)
def LS_ink (cmp : Prop) (Inv : HS → HS → Prop) : Prop := ∀ (h g : HS) (p1 p2 p3 : Int32) , Inv h g → ∃ (r1 : Int32) (h1 : HS) (r2 : Int32) (g1 : HS), f_X8_ink h p1 p2 p3 = some (r1, h1) ∧ f_X9_ink g p1 p2 p3 = some (r2, g1) ∧ Inv h1 g1 ∧ (cmp → r1 = r2)
def LS_known (cmp : Prop) (Inv : HS → HS → Prop) : Prop := ∀ (h g : HS) (p1 p2 : Int32) , Inv h g → ∃ (r1 : Int32) (h1 : HS) (r2 : Int32) (g1 : HS), f_X8_known h p1 p2 = some (r1, h1) ∧ f_X9_known g p1 p2 = some (r2, g1) ∧ Inv h1 g1 ∧ (cmp → r1 = r2)
def LS_led (cmp : Prop) (Inv : HS → HS → Prop) : Prop := ∀ (h g : HS) (p1 p2 : Int32) , Inv h g → ∃ (r1 : Int32) (h1 : HS) (r2 : Int32) (g1 : HS), f_X8_led h p1 p2 = some (r1, h1) ∧ f_X9_led g p1 p2 = some (r2, g1) ∧ Inv h1 g1 ∧ (cmp → r1 = r2)
def LS_answer (cmp : Prop) (Inv : HS → HS → Prop) : Prop := ∀ (h g : HS) (p1 : Int32) , Inv h g → ∃ (r1 : Int32) (h1 : HS) (r2 : Int32) (g1 : HS), f_X8_answer h p1 = some (r1, h1) ∧ f_X9_answer g p1 = some (r2, g1) ∧ Inv h1 g1 ∧ (cmp → r1 = r2)
def LS_plucks (cmp : Prop) (Inv : HS → HS → Prop) : Prop := ∀ (h g : HS) (p1 : Int32) , Inv h g → ∃ (r1 : Int32) (h1 : HS) (r2 : Int32) (g1 : HS), f_X8_plucks h p1 = some (r1, h1) ∧ f_X9_plucks g p1 = some (r2, g1) ∧ Inv h1 g1 ∧ (cmp → r1 = r2)
def LS_odds (cmp : Prop) (Inv : HS → HS → Prop) : Prop := ∀ (h g : HS) (p1 p2 p3 : Int32) , Inv h g → ∃ (r1 : Int64) (h1 : HS) (r2 : Int64) (g1 : HS), f_X8_odds h p1 p2 p3 = some (r1, h1) ∧ f_X9_odds g p1 p2 p3 = some (r2, g1) ∧ Inv h1 g1 ∧ (cmp → r1 = r2)
def LS_plan (cmp : Prop) (Inv : HS → HS → Prop) : Prop := ∀ (h g : HS) (p1 p2 p3 : Int32) , Inv h g → ∃ (r1 : Int32) (h1 : HS) (r2 : Int32) (g1 : HS), f_X8_plan h p1 p2 p3 = some (r1, h1) ∧ f_X9_plan g p1 p2 p3 = some (r2, g1) ∧ Inv h1 g1 ∧ (cmp → r1 = r2)
def LS_holds (cmp : Prop) (Inv : HS → HS → Prop) : Prop := ∀ (h g : HS) , Inv h g → ∃ (r1 : Int32) (h1 : HS) (r2 : Int32) (g1 : HS), f_X8_holds h  = some (r1, h1) ∧ f_X9_holds g  = some (r2, g1) ∧ Inv h1 g1 ∧ (cmp → r1 = r2)
def LS_image (cmp : Prop) (Inv : HS → HS → Prop) : Prop := ∀ (h g : HS) , Inv h g → ∃ (r1 : Int32) (h1 : HS) (r2 : Int32) (g1 : HS), f_X8_image h  = some (r1, h1) ∧ f_X9_image g  = some (r2, g1) ∧ Inv h1 g1 ∧ (cmp → r1 = r2)
def LS_back (cmp : Prop) (Inv : HS → HS → Prop) : Prop := ∀ (h g : HS) , Inv h g → ∃ (r1 : Int32) (h1 : HS) (r2 : Int32) (g1 : HS), f_X8_back h  = some (r1, h1) ∧ f_X9_back g  = some (r2, g1) ∧ Inv h1 g1 ∧ (cmp → r1 = r2)
def LS_about (cmp : Prop) (Inv : HS → HS → Prop) : Prop := ∀ (h g : HS) (p1 : Int32) , Inv h g → ∃ (r1 : Int32) (h1 : HS) (r2 : Int32) (g1 : HS), f_X8_about h p1 = some (r1, h1) ∧ f_X9_about g p1 = some (r2, g1) ∧ Inv h1 g1 ∧ (cmp → r1 = r2)
def LawStep (cmp : Nat → Prop) (Inv : HS → HS → Prop) : Prop := LS_market (cmp 0) Inv ∧ LS_goose (cmp 1) Inv ∧ LS_store (cmp 2) Inv ∧ LS_seed (cmp 3) Inv ∧ LS_fill (cmp 4) Inv ∧ LS_send (cmp 5) Inv ∧ LS_fatten (cmp 6) Inv ∧ LS_pluck (cmp 7) Inv ∧ LS_name (cmp 8) Inv ∧ LS_pass (cmp 9) Inv ∧ LS_feed (cmp 10) Inv ∧ LS_end (cmp 11) Inv ∧ LS_text (cmp 12) Inv ∧ LS_fault (cmp 13) Inv ∧ LS_by (cmp 14) Inv ∧ LS_played (cmp 15) Inv ∧ LS_undo (cmp 16) Inv ∧ LS_of (cmp 17) Inv ∧ LS_ink (cmp 18) Inv ∧ LS_known (cmp 19) Inv ∧ LS_led (cmp 20) Inv ∧ LS_answer (cmp 21) Inv ∧ LS_plucks (cmp 22) Inv ∧ LS_odds (cmp 23) Inv ∧ LS_plan (cmp 24) Inv ∧ LS_holds (cmp 25) Inv ∧ LS_image (cmp 26) Inv ∧ LS_back (cmp 27) Inv ∧ LS_about (cmp 28) Inv
theorem lg_cmp_self (x : Int64) : lg_cmp x x = 0 := by simp [lg_cmp]
theorem e_X8_market : yX8_market.cls = RX8 ∧ yX8_market.cls ≠ "java/lang/invoke/MethodHandle" ∧ yX8_market.cls ≠ "java/lang/invoke/VarHandle" ∧ (parseMethodDescriptor yX8_market.desc).map (fun d => d.parameters.length) = some 3 := by decide +kernel
theorem e_X9_market : yX9_market.cls = RX9 ∧ yX9_market.cls ≠ "java/lang/invoke/MethodHandle" ∧ yX9_market.cls ≠ "java/lang/invoke/VarHandle" ∧ (parseMethodDescriptor yX9_market.desc).map (fun d => d.parameters.length) = some 3 := by decide +kernel
set_option maxHeartbeats 4000000 in
set_option maxRecDepth 100000 in
theorem law_case0 {p : Program} {l : Launch} {e : Env} {s : State} {m : MethodId} {below : List Frame} {meth : Method} {c : Code} {G : va_G} {cI cJ cZ cB cT : ClassId} {b L : Nat} {xs : Nat → Int32} {A : Nat → Prop} {Inv : HS → HS → Prop} (hL : L ≤ 3072) (C0 : lw_At p s m meth c b L xs) (hAs : ∀ q, A q → s.heap.size ≤ q) (hA : ∀ q, s.heap.size ≤ q → A q) (hK : va_K G vwCl (gT cI cJ cZ cB cT) s) (hE : gEX G A s) {q r : Nat → Nat} {m0 : Nat} (hst : LawStep (fun k => k = 8) Inv) {i : Nat} (hi : i + 6 ≤ L) (hback : ∀ (h g : HS), Inv h g → ∀ (H : Heap) (locs : List Loc) (ls : Array Slot), va_P G vwCl (wC q cI cJ cZ cB cT h) H → va_D A (wC q cI cJ cZ cB cT h) → va_P G vwCl (wM m0 r cI cJ cZ cB cT g) H → va_D A (wM m0 r cI cJ cZ cB cT g) → gApart (wC q cI cJ cZ cB cT h) (wM m0 r cI cJ cZ cB cT g) → va_S A s.heap H locs → lv_has ls 4 [(0, .ref b), (1, .ref (q 0)), (2, .ref m0), (3, .int (nI i))] → W p l e room_1 s m #[Value.ref b] below meth c H locs 600000 7302249 (lw_Z below #[Value.ref b] s) (F0 m 1013 ls [])) {h g : HS} (hI : Inv h g) {H : Heap} {locs : List Loc} {ls : Array Slot} (hP : va_P G vwCl (wC q cI cJ cZ cB cT h) H) (hD : va_D A (wC q cI cJ cZ cB cT h)) (hPm : va_P G vwCl (wM m0 r cI cJ cZ cB cT g) H) (hDm : va_D A (wM m0 r cI cJ cZ cB cT g)) (hab : gApart (wC q cI cJ cZ cB cT h) (wM m0 r cI cJ cZ cB cT g)) (hS : va_S A s.heap H locs) (hl : lv_has ls 4 [(0, .ref b), (1, .ref (q 0)), (2, .ref m0), (3, .int (nI i))]) : W p l e room_1 s m #[Value.ref b] below meth c H locs 600000 7302249 (lw_Z below #[Value.ref b] s) (F0 m 164 ls []) := by
  obtain ⟨hx, hb, hr, hml, hown, hts, hX, hbl, hlocks, hgv⟩ := id C0
  have hts : ∀ w ∈ lwc, w.before #[Value.ref b] s = true := fun w h => hts w (lwc_in h)
  have hown : s.vm.findClass RL = some m.cls := hown
  have hbA : ¬ A b := fun h => Nat.lt_irrefl _ (Nat.lt_of_lt_of_le hbl (hAs b h))
  refine lv_aload_n hx hb dL_law_164 rfl (lv_at hl 1 rfl) ?_
  refine lv_aload_n hx hb dL_law_165 rfl (lv_at hl 0 rfl) ?_
  refine lv_iload_n hx hb dL_law_166 rfl (lv_at hl 3 rfl) ?_
  refine lv_iconst (v := 1) hx hb dL_law_167 (by decide) ?_
  refine lv_iadd hx hb dL_law_168 ?_
  refine gw_topi (y := (nI (i + 1))) (nI_add i 1) ?_
  refine gw_sld hx hb hX hbl hbA hS (i + 1) rfl (by omega) (by omega) dL_law_169 ?_
  refine lv_aload_n hx hb dL_law_170 rfl (lv_at hl 0 rfl) ?_
  refine lv_iload_n hx hb dL_law_171 rfl (lv_at hl 3 rfl) ?_
  refine lv_iconst (v := 2) hx hb dL_law_172 (by decide) ?_
  refine lv_iadd hx hb dL_law_173 ?_
  refine gw_topi (y := (nI (i + 2))) (nI_add i 2) ?_
  refine gw_sld hx hb hX hbl hbA hS (i + 2) rfl (by omega) (by omega) dL_law_174 ?_
  refine lv_aload_n hx hb dL_law_175 rfl (lv_at hl 0 rfl) ?_
  refine lv_iload_n hx hb dL_law_176 rfl (lv_at hl 3 rfl) ?_
  refine lv_iconst (v := 3) hx hb dL_law_177 (by decide) ?_
  refine lv_iadd hx hb dL_law_178 ?_
  refine gw_topi (y := (nI (i + 3))) (nI_add i 3) ?_
  refine gw_sld hx hb hX hbl hbA hS (i + 3) rfl (by omega) (by omega) dL_law_179 ?_
  obtain ⟨r1, h1, r2, g1, e1, e2, hI1, hq⟩ := hst.1 h g (xs (i + 1)) (xs (i + 2)) (xs (i + 3)) hI
  refine gx2_calli (gx_runV (As := [.int (xs (i + 1)), .int (xs (i + 2)), .int (xs (i + 3))]) (rest := []) ⟨hx, hb, hml, hown, hts⟩ (c_X8_market l G cI cJ cZ cB cT q h (xs (i + 1)) (xs (i + 2)) (xs (i + 3)) r1 h1 e1 H.size) (gG_V m_949 m_950 m_951 m_60 m_952) rfl e_X8_market ⟨(Nat.le_of_ble_eq_true rfl), (Nat.le_of_ble_eq_true rfl)⟩ hK hP hD hE hS hA 0 wC_at0 rfl rfl hl.1 rfl (Nat.le_of_ble_eq_true rfl) dL_law_180 ⟨(Nat.le_of_ble_eq_true rfl), (Nat.le_of_ble_eq_true rfl)⟩) hP hD hPm hab hS hA (fun x_1 u_1 H locs hw_1 hP hD hPm hab hS => ?_)
  subst x_1
  refine lv_pop hx hb dL_law_183 rfl ?_
  refine lv_aload_n hx hb dL_law_184 rfl (lv_at hl 2 rfl) ?_
  refine lv_aload_n hx hb dL_law_185 rfl (lv_at hl 0 rfl) ?_
  refine lv_iload_n hx hb dL_law_186 rfl (lv_at hl 3 rfl) ?_
  refine lv_iconst (v := 1) hx hb dL_law_187 (by decide) ?_
  refine lv_iadd hx hb dL_law_188 ?_
  refine gw_topi (y := (nI (i + 1))) (nI_add i 1) ?_
  refine gw_sld hx hb hX hbl hbA hS (i + 1) rfl (by omega) (by omega) dL_law_189 ?_
  refine lv_aload_n hx hb dL_law_190 rfl (lv_at hl 0 rfl) ?_
  refine lv_iload_n hx hb dL_law_191 rfl (lv_at hl 3 rfl) ?_
  refine lv_iconst (v := 2) hx hb dL_law_192 (by decide) ?_
  refine lv_iadd hx hb dL_law_193 ?_
  refine gw_topi (y := (nI (i + 2))) (nI_add i 2) ?_
  refine gw_sld hx hb hX hbl hbA hS (i + 2) rfl (by omega) (by omega) dL_law_194 ?_
  refine lv_aload_n hx hb dL_law_195 rfl (lv_at hl 0 rfl) ?_
  refine lv_iload_n hx hb dL_law_196 rfl (lv_at hl 3 rfl) ?_
  refine lv_iconst (v := 3) hx hb dL_law_197 (by decide) ?_
  refine lv_iadd hx hb dL_law_198 ?_
  refine gw_topi (y := (nI (i + 3))) (nI_add i 3) ?_
  refine gw_sld hx hb hX hbl hbA hS (i + 3) rfl (by omega) (by omega) dL_law_199 ?_
  refine gx2_calli (gx_runV (As := [.int (xs (i + 1)), .int (xs (i + 2)), .int (xs (i + 3))]) (rest := []) ⟨hx, hb, hml, hown, hts⟩ (c_X9_market l G cI cJ cZ cB cT m0 r g (xs (i + 1)) (xs (i + 2)) (xs (i + 3)) r2 g1 e2 H.size) (gG_V m_953 m_954 m_955 m_64 m_956) rfl e_X9_market ⟨(Nat.le_of_ble_eq_true rfl), (Nat.le_of_ble_eq_true rfl)⟩ hK hPm hDm hE hS hA 0 wM_at0 rfl rfl hl.1 rfl (Nat.le_of_ble_eq_true rfl) dL_law_200 ⟨(Nat.le_of_ble_eq_true rfl), (Nat.le_of_ble_eq_true rfl)⟩) hPm hDm hP hab.swap hS hA (fun x_2 u_2 H locs hw_2 hPm hDm hP hba hS => ?_)
  have hab := hba.swap
  subst x_2
  refine lv_pop hx hb dL_law_203 rfl ?_
  refine lv_goto (tgt := 1013) hx hb dL_law_204 (by decide) ?_
  exact hback h1 g1 hI1 H _ ls hP hD hPm hDm hab hS (lv_sub hl [0, 1, 2, 3] rfl)
theorem e_X8_goose : yX8_goose.cls = RX8 ∧ yX8_goose.cls ≠ "java/lang/invoke/MethodHandle" ∧ yX8_goose.cls ≠ "java/lang/invoke/VarHandle" ∧ (parseMethodDescriptor yX8_goose.desc).map (fun d => d.parameters.length) = some 2 := by decide +kernel
theorem e_X9_goose : yX9_goose.cls = RX9 ∧ yX9_goose.cls ≠ "java/lang/invoke/MethodHandle" ∧ yX9_goose.cls ≠ "java/lang/invoke/VarHandle" ∧ (parseMethodDescriptor yX9_goose.desc).map (fun d => d.parameters.length) = some 2 := by decide +kernel
set_option maxHeartbeats 4000000 in
set_option maxRecDepth 100000 in
theorem law_case1 {p : Program} {l : Launch} {e : Env} {s : State} {m : MethodId} {below : List Frame} {meth : Method} {c : Code} {G : va_G} {cI cJ cZ cB cT : ClassId} {b L : Nat} {xs : Nat → Int32} {A : Nat → Prop} {Inv : HS → HS → Prop} (hL : L ≤ 3072) (C0 : lw_At p s m meth c b L xs) (hAs : ∀ q, A q → s.heap.size ≤ q) (hA : ∀ q, s.heap.size ≤ q → A q) (hK : va_K G vwCl (gT cI cJ cZ cB cT) s) (hE : gEX G A s) {q r : Nat → Nat} {m0 : Nat} (hst : LawStep (fun k => k = 8) Inv) {i : Nat} (hi : i + 6 ≤ L) (hback : ∀ (h g : HS), Inv h g → ∀ (H : Heap) (locs : List Loc) (ls : Array Slot), va_P G vwCl (wC q cI cJ cZ cB cT h) H → va_D A (wC q cI cJ cZ cB cT h) → va_P G vwCl (wM m0 r cI cJ cZ cB cT g) H → va_D A (wM m0 r cI cJ cZ cB cT g) → gApart (wC q cI cJ cZ cB cT h) (wM m0 r cI cJ cZ cB cT g) → va_S A s.heap H locs → lv_has ls 4 [(0, .ref b), (1, .ref (q 0)), (2, .ref m0), (3, .int (nI i))] → W p l e room_1 s m #[Value.ref b] below meth c H locs 600000 7302249 (lw_Z below #[Value.ref b] s) (F0 m 1013 ls [])) {h g : HS} (hI : Inv h g) {H : Heap} {locs : List Loc} {ls : Array Slot} (hP : va_P G vwCl (wC q cI cJ cZ cB cT h) H) (hD : va_D A (wC q cI cJ cZ cB cT h)) (hPm : va_P G vwCl (wM m0 r cI cJ cZ cB cT g) H) (hDm : va_D A (wM m0 r cI cJ cZ cB cT g)) (hab : gApart (wC q cI cJ cZ cB cT h) (wM m0 r cI cJ cZ cB cT g)) (hS : va_S A s.heap H locs) (hl : lv_has ls 4 [(0, .ref b), (1, .ref (q 0)), (2, .ref m0), (3, .int (nI i))]) : W p l e room_1 s m #[Value.ref b] below meth c H locs 600000 7302249 (lw_Z below #[Value.ref b] s) (F0 m 207 ls []) := by
  obtain ⟨hx, hb, hr, hml, hown, hts, hX, hbl, hlocks, hgv⟩ := id C0
  have hts : ∀ w ∈ lwc, w.before #[Value.ref b] s = true := fun w h => hts w (lwc_in h)
  have hown : s.vm.findClass RL = some m.cls := hown
  have hbA : ¬ A b := fun h => Nat.lt_irrefl _ (Nat.lt_of_lt_of_le hbl (hAs b h))
  refine lv_aload_n hx hb dL_law_207 rfl (lv_at hl 1 rfl) ?_
  refine lv_aload_n hx hb dL_law_208 rfl (lv_at hl 0 rfl) ?_
  refine lv_iload_n hx hb dL_law_209 rfl (lv_at hl 3 rfl) ?_
  refine lv_iconst (v := 1) hx hb dL_law_210 (by decide) ?_
  refine lv_iadd hx hb dL_law_211 ?_
  refine gw_topi (y := (nI (i + 1))) (nI_add i 1) ?_
  refine gw_sld hx hb hX hbl hbA hS (i + 1) rfl (by omega) (by omega) dL_law_212 ?_
  refine lv_aload_n hx hb dL_law_213 rfl (lv_at hl 0 rfl) ?_
  refine lv_iload_n hx hb dL_law_214 rfl (lv_at hl 3 rfl) ?_
  refine lv_iconst (v := 2) hx hb dL_law_215 (by decide) ?_
  refine lv_iadd hx hb dL_law_216 ?_
  refine gw_topi (y := (nI (i + 2))) (nI_add i 2) ?_
  refine gw_sld hx hb hX hbl hbA hS (i + 2) rfl (by omega) (by omega) dL_law_217 ?_
  obtain ⟨r1, h1, r2, g1, e1, e2, hI1, hq⟩ := hst.2.1 h g (xs (i + 1)) (xs (i + 2)) hI
  refine gx2_calli (gx_runV (As := [.int (xs (i + 1)), .int (xs (i + 2))]) (rest := []) ⟨hx, hb, hml, hown, hts⟩ (c_X8_goose l G cI cJ cZ cB cT q h (xs (i + 1)) (xs (i + 2)) r1 h1 e1 H.size) (gG_V m_957 m_958 m_959 m_60 m_960) rfl e_X8_goose ⟨(Nat.le_of_ble_eq_true rfl), (Nat.le_of_ble_eq_true rfl)⟩ hK hP hD hE hS hA 0 wC_at0 rfl rfl hl.1 rfl (Nat.le_of_ble_eq_true rfl) dL_law_218 ⟨(Nat.le_of_ble_eq_true rfl), (Nat.le_of_ble_eq_true rfl)⟩) hP hD hPm hab hS hA (fun x_1 u_1 H locs hw_1 hP hD hPm hab hS => ?_)
  subst x_1
  refine lv_pop hx hb dL_law_221 rfl ?_
  refine lv_aload_n hx hb dL_law_222 rfl (lv_at hl 2 rfl) ?_
  refine lv_aload_n hx hb dL_law_223 rfl (lv_at hl 0 rfl) ?_
  refine lv_iload_n hx hb dL_law_224 rfl (lv_at hl 3 rfl) ?_
  refine lv_iconst (v := 1) hx hb dL_law_225 (by decide) ?_
  refine lv_iadd hx hb dL_law_226 ?_
  refine gw_topi (y := (nI (i + 1))) (nI_add i 1) ?_
  refine gw_sld hx hb hX hbl hbA hS (i + 1) rfl (by omega) (by omega) dL_law_227 ?_
  refine lv_aload_n hx hb dL_law_228 rfl (lv_at hl 0 rfl) ?_
  refine lv_iload_n hx hb dL_law_229 rfl (lv_at hl 3 rfl) ?_
  refine lv_iconst (v := 2) hx hb dL_law_230 (by decide) ?_
  refine lv_iadd hx hb dL_law_231 ?_
  refine gw_topi (y := (nI (i + 2))) (nI_add i 2) ?_
  refine gw_sld hx hb hX hbl hbA hS (i + 2) rfl (by omega) (by omega) dL_law_232 ?_
  refine gx2_calli (gx_runV (As := [.int (xs (i + 1)), .int (xs (i + 2))]) (rest := []) ⟨hx, hb, hml, hown, hts⟩ (c_X9_goose l G cI cJ cZ cB cT m0 r g (xs (i + 1)) (xs (i + 2)) r2 g1 e2 H.size) (gG_V m_961 m_962 m_963 m_64 m_964) rfl e_X9_goose ⟨(Nat.le_of_ble_eq_true rfl), (Nat.le_of_ble_eq_true rfl)⟩ hK hPm hDm hE hS hA 0 wM_at0 rfl rfl hl.1 rfl (Nat.le_of_ble_eq_true rfl) dL_law_233 ⟨(Nat.le_of_ble_eq_true rfl), (Nat.le_of_ble_eq_true rfl)⟩) hPm hDm hP hab.swap hS hA (fun x_2 u_2 H locs hw_2 hPm hDm hP hba hS => ?_)
  have hab := hba.swap
  subst x_2
  refine lv_pop hx hb dL_law_236 rfl ?_
  refine lv_goto (tgt := 1013) hx hb dL_law_237 (by decide) ?_
  exact hback h1 g1 hI1 H _ ls hP hD hPm hDm hab hS (lv_sub hl [0, 1, 2, 3] rfl)
theorem e_X8_store : yX8_store.cls = RX8 ∧ yX8_store.cls ≠ "java/lang/invoke/MethodHandle" ∧ yX8_store.cls ≠ "java/lang/invoke/VarHandle" ∧ (parseMethodDescriptor yX8_store.desc).map (fun d => d.parameters.length) = some 2 := by decide +kernel
theorem e_X9_store : yX9_store.cls = RX9 ∧ yX9_store.cls ≠ "java/lang/invoke/MethodHandle" ∧ yX9_store.cls ≠ "java/lang/invoke/VarHandle" ∧ (parseMethodDescriptor yX9_store.desc).map (fun d => d.parameters.length) = some 2 := by decide +kernel
set_option maxHeartbeats 4000000 in
set_option maxRecDepth 100000 in
theorem law_case2 {p : Program} {l : Launch} {e : Env} {s : State} {m : MethodId} {below : List Frame} {meth : Method} {c : Code} {G : va_G} {cI cJ cZ cB cT : ClassId} {b L : Nat} {xs : Nat → Int32} {A : Nat → Prop} {Inv : HS → HS → Prop} (hL : L ≤ 3072) (C0 : lw_At p s m meth c b L xs) (hAs : ∀ q, A q → s.heap.size ≤ q) (hA : ∀ q, s.heap.size ≤ q → A q) (hK : va_K G vwCl (gT cI cJ cZ cB cT) s) (hE : gEX G A s) {q r : Nat → Nat} {m0 : Nat} (hst : LawStep (fun k => k = 8) Inv) {i : Nat} (hi : i + 6 ≤ L) (hback : ∀ (h g : HS), Inv h g → ∀ (H : Heap) (locs : List Loc) (ls : Array Slot), va_P G vwCl (wC q cI cJ cZ cB cT h) H → va_D A (wC q cI cJ cZ cB cT h) → va_P G vwCl (wM m0 r cI cJ cZ cB cT g) H → va_D A (wM m0 r cI cJ cZ cB cT g) → gApart (wC q cI cJ cZ cB cT h) (wM m0 r cI cJ cZ cB cT g) → va_S A s.heap H locs → lv_has ls 4 [(0, .ref b), (1, .ref (q 0)), (2, .ref m0), (3, .int (nI i))] → W p l e room_1 s m #[Value.ref b] below meth c H locs 600000 7302249 (lw_Z below #[Value.ref b] s) (F0 m 1013 ls [])) {h g : HS} (hI : Inv h g) {H : Heap} {locs : List Loc} {ls : Array Slot} (hP : va_P G vwCl (wC q cI cJ cZ cB cT h) H) (hD : va_D A (wC q cI cJ cZ cB cT h)) (hPm : va_P G vwCl (wM m0 r cI cJ cZ cB cT g) H) (hDm : va_D A (wM m0 r cI cJ cZ cB cT g)) (hab : gApart (wC q cI cJ cZ cB cT h) (wM m0 r cI cJ cZ cB cT g)) (hS : va_S A s.heap H locs) (hl : lv_has ls 4 [(0, .ref b), (1, .ref (q 0)), (2, .ref m0), (3, .int (nI i))]) : W p l e room_1 s m #[Value.ref b] below meth c H locs 600000 7302249 (lw_Z below #[Value.ref b] s) (F0 m 240 ls []) := by
  obtain ⟨hx, hb, hr, hml, hown, hts, hX, hbl, hlocks, hgv⟩ := id C0
  have hts : ∀ w ∈ lwc, w.before #[Value.ref b] s = true := fun w h => hts w (lwc_in h)
  have hown : s.vm.findClass RL = some m.cls := hown
  have hbA : ¬ A b := fun h => Nat.lt_irrefl _ (Nat.lt_of_lt_of_le hbl (hAs b h))
  refine lv_aload_n hx hb dL_law_240 rfl (lv_at hl 1 rfl) ?_
  refine lv_aload_n hx hb dL_law_241 rfl (lv_at hl 0 rfl) ?_
  refine lv_iload_n hx hb dL_law_242 rfl (lv_at hl 3 rfl) ?_
  refine lv_iconst (v := 1) hx hb dL_law_243 (by decide) ?_
  refine lv_iadd hx hb dL_law_244 ?_
  refine gw_topi (y := (nI (i + 1))) (nI_add i 1) ?_
  refine gw_sld hx hb hX hbl hbA hS (i + 1) rfl (by omega) (by omega) dL_law_245 ?_
  refine lv_aload_n hx hb dL_law_246 rfl (lv_at hl 0 rfl) ?_
  refine lv_iload_n hx hb dL_law_247 rfl (lv_at hl 3 rfl) ?_
  refine lv_iconst (v := 2) hx hb dL_law_248 (by decide) ?_
  refine lv_iadd hx hb dL_law_249 ?_
  refine gw_topi (y := (nI (i + 2))) (nI_add i 2) ?_
  refine gw_sld hx hb hX hbl hbA hS (i + 2) rfl (by omega) (by omega) dL_law_250 ?_
  obtain ⟨r1, h1, r2, g1, e1, e2, hI1, hq⟩ := hst.2.2.1 h g (xs (i + 1)) (xs (i + 2)) hI
  refine gx2_calli (gx_runV (As := [.int (xs (i + 1)), .int (xs (i + 2))]) (rest := []) ⟨hx, hb, hml, hown, hts⟩ (c_X8_store l G cI cJ cZ cB cT q h (xs (i + 1)) (xs (i + 2)) r1 h1 e1 H.size) (gG_V m_965 m_966 m_967 m_60 m_968) rfl e_X8_store ⟨(Nat.le_of_ble_eq_true rfl), (Nat.le_of_ble_eq_true rfl)⟩ hK hP hD hE hS hA 0 wC_at0 rfl rfl hl.1 rfl (Nat.le_of_ble_eq_true rfl) dL_law_251 ⟨(Nat.le_of_ble_eq_true rfl), (Nat.le_of_ble_eq_true rfl)⟩) hP hD hPm hab hS hA (fun x_1 u_1 H locs hw_1 hP hD hPm hab hS => ?_)
  subst x_1
  refine lv_pop hx hb dL_law_254 rfl ?_
  refine lv_aload_n hx hb dL_law_255 rfl (lv_at hl 2 rfl) ?_
  refine lv_aload_n hx hb dL_law_256 rfl (lv_at hl 0 rfl) ?_
  refine lv_iload_n hx hb dL_law_257 rfl (lv_at hl 3 rfl) ?_
  refine lv_iconst (v := 1) hx hb dL_law_258 (by decide) ?_
  refine lv_iadd hx hb dL_law_259 ?_
  refine gw_topi (y := (nI (i + 1))) (nI_add i 1) ?_
  refine gw_sld hx hb hX hbl hbA hS (i + 1) rfl (by omega) (by omega) dL_law_260 ?_
  refine lv_aload_n hx hb dL_law_261 rfl (lv_at hl 0 rfl) ?_
  refine lv_iload_n hx hb dL_law_262 rfl (lv_at hl 3 rfl) ?_
  refine lv_iconst (v := 2) hx hb dL_law_263 (by decide) ?_
  refine lv_iadd hx hb dL_law_264 ?_
  refine gw_topi (y := (nI (i + 2))) (nI_add i 2) ?_
  refine gw_sld hx hb hX hbl hbA hS (i + 2) rfl (by omega) (by omega) dL_law_265 ?_
  refine gx2_calli (gx_runV (As := [.int (xs (i + 1)), .int (xs (i + 2))]) (rest := []) ⟨hx, hb, hml, hown, hts⟩ (c_X9_store l G cI cJ cZ cB cT m0 r g (xs (i + 1)) (xs (i + 2)) r2 g1 e2 H.size) (gG_V m_969 m_970 m_971 m_64 m_972) rfl e_X9_store ⟨(Nat.le_of_ble_eq_true rfl), (Nat.le_of_ble_eq_true rfl)⟩ hK hPm hDm hE hS hA 0 wM_at0 rfl rfl hl.1 rfl (Nat.le_of_ble_eq_true rfl) dL_law_266 ⟨(Nat.le_of_ble_eq_true rfl), (Nat.le_of_ble_eq_true rfl)⟩) hPm hDm hP hab.swap hS hA (fun x_2 u_2 H locs hw_2 hPm hDm hP hba hS => ?_)
  have hab := hba.swap
  subst x_2
  refine lv_pop hx hb dL_law_269 rfl ?_
  refine lv_goto (tgt := 1013) hx hb dL_law_270 (by decide) ?_
  exact hback h1 g1 hI1 H _ ls hP hD hPm hDm hab hS (lv_sub hl [0, 1, 2, 3] rfl)
theorem e_X8_seed : yX8_seed.cls = RX8 ∧ yX8_seed.cls ≠ "java/lang/invoke/MethodHandle" ∧ yX8_seed.cls ≠ "java/lang/invoke/VarHandle" ∧ (parseMethodDescriptor yX8_seed.desc).map (fun d => d.parameters.length) = some 1 := by decide +kernel
theorem e_X9_seed : yX9_seed.cls = RX9 ∧ yX9_seed.cls ≠ "java/lang/invoke/MethodHandle" ∧ yX9_seed.cls ≠ "java/lang/invoke/VarHandle" ∧ (parseMethodDescriptor yX9_seed.desc).map (fun d => d.parameters.length) = some 1 := by decide +kernel
set_option maxHeartbeats 4000000 in
set_option maxRecDepth 100000 in
theorem law_case3 {p : Program} {l : Launch} {e : Env} {s : State} {m : MethodId} {below : List Frame} {meth : Method} {c : Code} {G : va_G} {cI cJ cZ cB cT : ClassId} {b L : Nat} {xs : Nat → Int32} {A : Nat → Prop} {Inv : HS → HS → Prop} (hL : L ≤ 3072) (C0 : lw_At p s m meth c b L xs) (hAs : ∀ q, A q → s.heap.size ≤ q) (hA : ∀ q, s.heap.size ≤ q → A q) (hK : va_K G vwCl (gT cI cJ cZ cB cT) s) (hE : gEX G A s) {q r : Nat → Nat} {m0 : Nat} (hst : LawStep (fun k => k = 8) Inv) {i : Nat} (hi : i + 6 ≤ L) (hback : ∀ (h g : HS), Inv h g → ∀ (H : Heap) (locs : List Loc) (ls : Array Slot), va_P G vwCl (wC q cI cJ cZ cB cT h) H → va_D A (wC q cI cJ cZ cB cT h) → va_P G vwCl (wM m0 r cI cJ cZ cB cT g) H → va_D A (wM m0 r cI cJ cZ cB cT g) → gApart (wC q cI cJ cZ cB cT h) (wM m0 r cI cJ cZ cB cT g) → va_S A s.heap H locs → lv_has ls 4 [(0, .ref b), (1, .ref (q 0)), (2, .ref m0), (3, .int (nI i))] → W p l e room_1 s m #[Value.ref b] below meth c H locs 600000 7302249 (lw_Z below #[Value.ref b] s) (F0 m 1013 ls [])) {h g : HS} (hI : Inv h g) {H : Heap} {locs : List Loc} {ls : Array Slot} (hP : va_P G vwCl (wC q cI cJ cZ cB cT h) H) (hD : va_D A (wC q cI cJ cZ cB cT h)) (hPm : va_P G vwCl (wM m0 r cI cJ cZ cB cT g) H) (hDm : va_D A (wM m0 r cI cJ cZ cB cT g)) (hab : gApart (wC q cI cJ cZ cB cT h) (wM m0 r cI cJ cZ cB cT g)) (hS : va_S A s.heap H locs) (hl : lv_has ls 4 [(0, .ref b), (1, .ref (q 0)), (2, .ref m0), (3, .int (nI i))]) : W p l e room_1 s m #[Value.ref b] below meth c H locs 600000 7302249 (lw_Z below #[Value.ref b] s) (F0 m 273 ls []) := by
  obtain ⟨hx, hb, hr, hml, hown, hts, hX, hbl, hlocks, hgv⟩ := id C0
  have hts : ∀ w ∈ lwc, w.before #[Value.ref b] s = true := fun w h => hts w (lwc_in h)
  have hown : s.vm.findClass RL = some m.cls := hown
  have hbA : ¬ A b := fun h => Nat.lt_irrefl _ (Nat.lt_of_lt_of_le hbl (hAs b h))
  refine lv_aload_n hx hb dL_law_273 rfl (lv_at hl 1 rfl) ?_
  refine lv_aload_n hx hb dL_law_274 rfl (lv_at hl 0 rfl) ?_
  refine lv_iload_n hx hb dL_law_275 rfl (lv_at hl 3 rfl) ?_
  refine lv_iconst (v := 1) hx hb dL_law_276 (by decide) ?_
  refine lv_iadd hx hb dL_law_277 ?_
  refine gw_topi (y := (nI (i + 1))) (nI_add i 1) ?_
  refine gw_sld hx hb hX hbl hbA hS (i + 1) rfl (by omega) (by omega) dL_law_278 ?_
  obtain ⟨r1, h1, r2, g1, e1, e2, hI1, hq⟩ := hst.2.2.2.1 h g (xs (i + 1)) hI
  refine gx2_calli (gx_runV (As := [.int (xs (i + 1))]) (rest := []) ⟨hx, hb, hml, hown, hts⟩ (c_X8_seed l G cI cJ cZ cB cT q h (xs (i + 1)) r1 h1 e1 H.size) (gG_V m_973 m_974 m_975 m_60 m_976) rfl e_X8_seed ⟨(Nat.le_of_ble_eq_true rfl), (Nat.le_of_ble_eq_true rfl)⟩ hK hP hD hE hS hA 0 wC_at0 rfl rfl hl.1 rfl (Nat.le_of_ble_eq_true rfl) dL_law_279 ⟨(Nat.le_of_ble_eq_true rfl), (Nat.le_of_ble_eq_true rfl)⟩) hP hD hPm hab hS hA (fun x_1 u_1 H locs hw_1 hP hD hPm hab hS => ?_)
  subst x_1
  refine lv_pop hx hb dL_law_282 rfl ?_
  refine lv_aload_n hx hb dL_law_283 rfl (lv_at hl 2 rfl) ?_
  refine lv_aload_n hx hb dL_law_284 rfl (lv_at hl 0 rfl) ?_
  refine lv_iload_n hx hb dL_law_285 rfl (lv_at hl 3 rfl) ?_
  refine lv_iconst (v := 1) hx hb dL_law_286 (by decide) ?_
  refine lv_iadd hx hb dL_law_287 ?_
  refine gw_topi (y := (nI (i + 1))) (nI_add i 1) ?_
  refine gw_sld hx hb hX hbl hbA hS (i + 1) rfl (by omega) (by omega) dL_law_288 ?_
  refine gx2_calli (gx_runV (As := [.int (xs (i + 1))]) (rest := []) ⟨hx, hb, hml, hown, hts⟩ (c_X9_seed l G cI cJ cZ cB cT m0 r g (xs (i + 1)) r2 g1 e2 H.size) (gG_V m_977 m_978 m_979 m_64 m_980) rfl e_X9_seed ⟨(Nat.le_of_ble_eq_true rfl), (Nat.le_of_ble_eq_true rfl)⟩ hK hPm hDm hE hS hA 0 wM_at0 rfl rfl hl.1 rfl (Nat.le_of_ble_eq_true rfl) dL_law_289 ⟨(Nat.le_of_ble_eq_true rfl), (Nat.le_of_ble_eq_true rfl)⟩) hPm hDm hP hab.swap hS hA (fun x_2 u_2 H locs hw_2 hPm hDm hP hba hS => ?_)
  have hab := hba.swap
  subst x_2
  refine lv_pop hx hb dL_law_292 rfl ?_
  refine lv_goto (tgt := 1013) hx hb dL_law_293 (by decide) ?_
  exact hback h1 g1 hI1 H _ ls hP hD hPm hDm hab hS (lv_sub hl [0, 1, 2, 3] rfl)
set_option maxHeartbeats 4000000 in
set_option maxRecDepth 100000 in
theorem law_case4 {p : Program} {l : Launch} {e : Env} {s : State} {m : MethodId} {below : List Frame} {meth : Method} {c : Code} {G : va_G} {cI cJ cZ cB cT : ClassId} {b L : Nat} {xs : Nat → Int32} {A : Nat → Prop} {Inv : HS → HS → Prop} (hL : L ≤ 3072) (C0 : lw_At p s m meth c b L xs) (hAs : ∀ q, A q → s.heap.size ≤ q) (hA : ∀ q, s.heap.size ≤ q → A q) (hK : va_K G vwCl (gT cI cJ cZ cB cT) s) (hE : gEX G A s) {q r : Nat → Nat} {m0 : Nat} (hst : LawStep (fun k => k = 8) Inv) {i : Nat} (hi : i + 6 ≤ L) (hback : ∀ (h g : HS), Inv h g → ∀ (H : Heap) (locs : List Loc) (ls : Array Slot), va_P G vwCl (wC q cI cJ cZ cB cT h) H → va_D A (wC q cI cJ cZ cB cT h) → va_P G vwCl (wM m0 r cI cJ cZ cB cT g) H → va_D A (wM m0 r cI cJ cZ cB cT g) → gApart (wC q cI cJ cZ cB cT h) (wM m0 r cI cJ cZ cB cT g) → va_S A s.heap H locs → lv_has ls 4 [(0, .ref b), (1, .ref (q 0)), (2, .ref m0), (3, .int (nI i))] → W p l e room_1 s m #[Value.ref b] below meth c H locs 600000 7302249 (lw_Z below #[Value.ref b] s) (F0 m 1013 ls [])) {h g : HS} (hI : Inv h g) {H : Heap} {locs : List Loc} {ls : Array Slot} (hP : va_P G vwCl (wC q cI cJ cZ cB cT h) H) (hD : va_D A (wC q cI cJ cZ cB cT h)) (hPm : va_P G vwCl (wM m0 r cI cJ cZ cB cT g) H) (hDm : va_D A (wM m0 r cI cJ cZ cB cT g)) (hab : gApart (wC q cI cJ cZ cB cT h) (wM m0 r cI cJ cZ cB cT g)) (hS : va_S A s.heap H locs) (hl : lv_has ls 4 [(0, .ref b), (1, .ref (q 0)), (2, .ref m0), (3, .int (nI i))]) : W p l e room_1 s m #[Value.ref b] below meth c H locs 600000 7302249 (lw_Z below #[Value.ref b] s) (F0 m 296 ls []) := by
  obtain ⟨hx, hb, hr, hml, hown, hts, hX, hbl, hlocks, hgv⟩ := id C0
  have hts : ∀ w ∈ lwc, w.before #[Value.ref b] s = true := fun w h => hts w (lwc_in h)
  have hown : s.vm.findClass RL = some m.cls := hown
  have hbA : ¬ A b := fun h => Nat.lt_irrefl _ (Nat.lt_of_lt_of_le hbl (hAs b h))
  refine lv_aload_n hx hb dL_law_296 rfl (lv_at hl 1 rfl) ?_
  refine lv_aload_n hx hb dL_law_297 rfl (lv_at hl 0 rfl) ?_
  refine lv_iload_n hx hb dL_law_298 rfl (lv_at hl 3 rfl) ?_
  refine lv_iconst (v := 1) hx hb dL_law_299 (by decide) ?_
  refine lv_iadd hx hb dL_law_300 ?_
  refine gw_topi (y := (nI (i + 1))) (nI_add i 1) ?_
  refine gw_sld hx hb hX hbl hbA hS (i + 1) rfl (by omega) (by omega) dL_law_301 ?_
  refine lv_aload_n hx hb dL_law_302 rfl (lv_at hl 0 rfl) ?_
  refine lv_iload_n hx hb dL_law_303 rfl (lv_at hl 3 rfl) ?_
  refine lv_iconst (v := 2) hx hb dL_law_304 (by decide) ?_
  refine lv_iadd hx hb dL_law_305 ?_
  refine gw_topi (y := (nI (i + 2))) (nI_add i 2) ?_
  refine gw_sld hx hb hX hbl hbA hS (i + 2) rfl (by omega) (by omega) dL_law_306 ?_
  refine lv_aload_n hx hb dL_law_307 rfl (lv_at hl 0 rfl) ?_
  refine lv_iload_n hx hb dL_law_308 rfl (lv_at hl 3 rfl) ?_
  refine lv_iconst (v := 3) hx hb dL_law_309 (by decide) ?_
  refine lv_iadd hx hb dL_law_310 ?_
  refine gw_topi (y := (nI (i + 3))) (nI_add i 3) ?_
  refine gw_sld hx hb hX hbl hbA hS (i + 3) rfl (by omega) (by omega) dL_law_311 ?_
  obtain ⟨r1, h1, r2, g1, e1, e2, hI1, hq⟩ := hst.2.2.2.2.1 h g (xs (i + 1)) (xs (i + 2)) (xs (i + 3)) hI
  refine gx2_calli (gx_runV (As := [.int (xs (i + 1)), .int (xs (i + 2)), .int (xs (i + 3))]) (rest := []) ⟨hx, hb, hml, hown, hts⟩ (c_X8_fill l G cI cJ cZ cB cT q h (xs (i + 1)) (xs (i + 2)) (xs (i + 3)) r1 h1 e1 H.size) (gG_V m_981 m_820 m_821 m_60 m_818) rfl e_X8_fill ⟨(Nat.le_of_ble_eq_true rfl), (Nat.le_of_ble_eq_true rfl)⟩ hK hP hD hE hS hA 0 wC_at0 rfl rfl hl.1 rfl (Nat.le_of_ble_eq_true rfl) dL_law_312 ⟨(Nat.le_of_ble_eq_true rfl), (Nat.le_of_ble_eq_true rfl)⟩) hP hD hPm hab hS hA (fun x_1 u_1 H locs hw_1 hP hD hPm hab hS => ?_)
  subst x_1
  refine lv_pop hx hb dL_law_315 rfl ?_
  refine lv_aload_n hx hb dL_law_316 rfl (lv_at hl 2 rfl) ?_
  refine lv_aload_n hx hb dL_law_317 rfl (lv_at hl 0 rfl) ?_
  refine lv_iload_n hx hb dL_law_318 rfl (lv_at hl 3 rfl) ?_
  refine lv_iconst (v := 1) hx hb dL_law_319 (by decide) ?_
  refine lv_iadd hx hb dL_law_320 ?_
  refine gw_topi (y := (nI (i + 1))) (nI_add i 1) ?_
  refine gw_sld hx hb hX hbl hbA hS (i + 1) rfl (by omega) (by omega) dL_law_321 ?_
  refine lv_aload_n hx hb dL_law_322 rfl (lv_at hl 0 rfl) ?_
  refine lv_iload_n hx hb dL_law_323 rfl (lv_at hl 3 rfl) ?_
  refine lv_iconst (v := 2) hx hb dL_law_324 (by decide) ?_
  refine lv_iadd hx hb dL_law_325 ?_
  refine gw_topi (y := (nI (i + 2))) (nI_add i 2) ?_
  refine gw_sld hx hb hX hbl hbA hS (i + 2) rfl (by omega) (by omega) dL_law_326 ?_
  refine lv_aload_n hx hb dL_law_327 rfl (lv_at hl 0 rfl) ?_
  refine lv_iload_n hx hb dL_law_328 rfl (lv_at hl 3 rfl) ?_
  refine lv_iconst (v := 3) hx hb dL_law_329 (by decide) ?_
  refine lv_iadd hx hb dL_law_330 ?_
  refine gw_topi (y := (nI (i + 3))) (nI_add i 3) ?_
  refine gw_sld hx hb hX hbl hbA hS (i + 3) rfl (by omega) (by omega) dL_law_331 ?_
  refine gx2_calli (gx_runV (As := [.int (xs (i + 1)), .int (xs (i + 2)), .int (xs (i + 3))]) (rest := []) ⟨hx, hb, hml, hown, hts⟩ (c_X9_fill l G cI cJ cZ cB cT m0 r g (xs (i + 1)) (xs (i + 2)) (xs (i + 3)) r2 g1 e2 H.size) (gG_V m_982 m_322 m_323 m_64 m_320) rfl e_X9_fill ⟨(Nat.le_of_ble_eq_true rfl), (Nat.le_of_ble_eq_true rfl)⟩ hK hPm hDm hE hS hA 0 wM_at0 rfl rfl hl.1 rfl (Nat.le_of_ble_eq_true rfl) dL_law_332 ⟨(Nat.le_of_ble_eq_true rfl), (Nat.le_of_ble_eq_true rfl)⟩) hPm hDm hP hab.swap hS hA (fun x_2 u_2 H locs hw_2 hPm hDm hP hba hS => ?_)
  have hab := hba.swap
  subst x_2
  refine lv_pop hx hb dL_law_335 rfl ?_
  refine lv_goto (tgt := 1013) hx hb dL_law_336 (by decide) ?_
  exact hback h1 g1 hI1 H _ ls hP hD hPm hDm hab hS (lv_sub hl [0, 1, 2, 3] rfl)
set_option maxHeartbeats 4000000 in
set_option maxRecDepth 100000 in
theorem law_case5 {p : Program} {l : Launch} {e : Env} {s : State} {m : MethodId} {below : List Frame} {meth : Method} {c : Code} {G : va_G} {cI cJ cZ cB cT : ClassId} {b L : Nat} {xs : Nat → Int32} {A : Nat → Prop} {Inv : HS → HS → Prop} (hL : L ≤ 3072) (C0 : lw_At p s m meth c b L xs) (hAs : ∀ q, A q → s.heap.size ≤ q) (hA : ∀ q, s.heap.size ≤ q → A q) (hK : va_K G vwCl (gT cI cJ cZ cB cT) s) (hE : gEX G A s) {q r : Nat → Nat} {m0 : Nat} (hst : LawStep (fun k => k = 8) Inv) {i : Nat} (hi : i + 6 ≤ L) (hback : ∀ (h g : HS), Inv h g → ∀ (H : Heap) (locs : List Loc) (ls : Array Slot), va_P G vwCl (wC q cI cJ cZ cB cT h) H → va_D A (wC q cI cJ cZ cB cT h) → va_P G vwCl (wM m0 r cI cJ cZ cB cT g) H → va_D A (wM m0 r cI cJ cZ cB cT g) → gApart (wC q cI cJ cZ cB cT h) (wM m0 r cI cJ cZ cB cT g) → va_S A s.heap H locs → lv_has ls 4 [(0, .ref b), (1, .ref (q 0)), (2, .ref m0), (3, .int (nI i))] → W p l e room_1 s m #[Value.ref b] below meth c H locs 600000 7302249 (lw_Z below #[Value.ref b] s) (F0 m 1013 ls [])) {h g : HS} (hI : Inv h g) {H : Heap} {locs : List Loc} {ls : Array Slot} (hP : va_P G vwCl (wC q cI cJ cZ cB cT h) H) (hD : va_D A (wC q cI cJ cZ cB cT h)) (hPm : va_P G vwCl (wM m0 r cI cJ cZ cB cT g) H) (hDm : va_D A (wM m0 r cI cJ cZ cB cT g)) (hab : gApart (wC q cI cJ cZ cB cT h) (wM m0 r cI cJ cZ cB cT g)) (hS : va_S A s.heap H locs) (hl : lv_has ls 4 [(0, .ref b), (1, .ref (q 0)), (2, .ref m0), (3, .int (nI i))]) : W p l e room_1 s m #[Value.ref b] below meth c H locs 600000 7302249 (lw_Z below #[Value.ref b] s) (F0 m 339 ls []) := by
  obtain ⟨hx, hb, hr, hml, hown, hts, hX, hbl, hlocks, hgv⟩ := id C0
  have hts : ∀ w ∈ lwc, w.before #[Value.ref b] s = true := fun w h => hts w (lwc_in h)
  have hown : s.vm.findClass RL = some m.cls := hown
  have hbA : ¬ A b := fun h => Nat.lt_irrefl _ (Nat.lt_of_lt_of_le hbl (hAs b h))
  refine lv_aload_n hx hb dL_law_339 rfl (lv_at hl 1 rfl) ?_
  refine lv_aload_n hx hb dL_law_340 rfl (lv_at hl 0 rfl) ?_
  refine lv_iload_n hx hb dL_law_341 rfl (lv_at hl 3 rfl) ?_
  refine lv_iconst (v := 1) hx hb dL_law_342 (by decide) ?_
  refine lv_iadd hx hb dL_law_343 ?_
  refine gw_topi (y := (nI (i + 1))) (nI_add i 1) ?_
  refine gw_sld hx hb hX hbl hbA hS (i + 1) rfl (by omega) (by omega) dL_law_344 ?_
  refine lv_aload_n hx hb dL_law_345 rfl (lv_at hl 0 rfl) ?_
  refine lv_iload_n hx hb dL_law_346 rfl (lv_at hl 3 rfl) ?_
  refine lv_iconst (v := 2) hx hb dL_law_347 (by decide) ?_
  refine lv_iadd hx hb dL_law_348 ?_
  refine gw_topi (y := (nI (i + 2))) (nI_add i 2) ?_
  refine gw_sld hx hb hX hbl hbA hS (i + 2) rfl (by omega) (by omega) dL_law_349 ?_
  obtain ⟨r1, h1, r2, g1, e1, e2, hI1, hq⟩ := hst.2.2.2.2.2.1 h g (xs (i + 1)) (xs (i + 2)) hI
  refine gx2_calli (gx_runV (As := [.int (xs (i + 1)), .int (xs (i + 2))]) (rest := []) ⟨hx, hb, hml, hown, hts⟩ (c_X8_send l G cI cJ cZ cB cT q h (xs (i + 1)) (xs (i + 2)) r1 h1 e1 H.size) (gG_V m_983 m_824 m_825 m_60 m_822) rfl e_X8_send ⟨(Nat.le_of_ble_eq_true rfl), (Nat.le_of_ble_eq_true rfl)⟩ hK hP hD hE hS hA 0 wC_at0 rfl rfl hl.1 rfl (Nat.le_of_ble_eq_true rfl) dL_law_350 ⟨(Nat.le_of_ble_eq_true rfl), (Nat.le_of_ble_eq_true rfl)⟩) hP hD hPm hab hS hA (fun x_1 u_1 H locs hw_1 hP hD hPm hab hS => ?_)
  subst x_1
  refine lv_pop hx hb dL_law_353 rfl ?_
  refine lv_aload_n hx hb dL_law_354 rfl (lv_at hl 2 rfl) ?_
  refine lv_aload_n hx hb dL_law_355 rfl (lv_at hl 0 rfl) ?_
  refine lv_iload_n hx hb dL_law_356 rfl (lv_at hl 3 rfl) ?_
  refine lv_iconst (v := 1) hx hb dL_law_357 (by decide) ?_
  refine lv_iadd hx hb dL_law_358 ?_
  refine gw_topi (y := (nI (i + 1))) (nI_add i 1) ?_
  refine gw_sld hx hb hX hbl hbA hS (i + 1) rfl (by omega) (by omega) dL_law_359 ?_
  refine lv_aload_n hx hb dL_law_360 rfl (lv_at hl 0 rfl) ?_
  refine lv_iload_n hx hb dL_law_361 rfl (lv_at hl 3 rfl) ?_
  refine lv_iconst (v := 2) hx hb dL_law_362 (by decide) ?_
  refine lv_iadd hx hb dL_law_363 ?_
  refine gw_topi (y := (nI (i + 2))) (nI_add i 2) ?_
  refine gw_sld hx hb hX hbl hbA hS (i + 2) rfl (by omega) (by omega) dL_law_364 ?_
  refine gx2_calli (gx_runV (As := [.int (xs (i + 1)), .int (xs (i + 2))]) (rest := []) ⟨hx, hb, hml, hown, hts⟩ (c_X9_send l G cI cJ cZ cB cT m0 r g (xs (i + 1)) (xs (i + 2)) r2 g1 e2 H.size) (gG_V m_984 m_326 m_327 m_64 m_324) rfl e_X9_send ⟨(Nat.le_of_ble_eq_true rfl), (Nat.le_of_ble_eq_true rfl)⟩ hK hPm hDm hE hS hA 0 wM_at0 rfl rfl hl.1 rfl (Nat.le_of_ble_eq_true rfl) dL_law_365 ⟨(Nat.le_of_ble_eq_true rfl), (Nat.le_of_ble_eq_true rfl)⟩) hPm hDm hP hab.swap hS hA (fun x_2 u_2 H locs hw_2 hPm hDm hP hba hS => ?_)
  have hab := hba.swap
  subst x_2
  refine lv_pop hx hb dL_law_368 rfl ?_
  refine lv_goto (tgt := 1013) hx hb dL_law_369 (by decide) ?_
  exact hback h1 g1 hI1 H _ ls hP hD hPm hDm hab hS (lv_sub hl [0, 1, 2, 3] rfl)
set_option maxHeartbeats 4000000 in
set_option maxRecDepth 100000 in
theorem law_case6 {p : Program} {l : Launch} {e : Env} {s : State} {m : MethodId} {below : List Frame} {meth : Method} {c : Code} {G : va_G} {cI cJ cZ cB cT : ClassId} {b L : Nat} {xs : Nat → Int32} {A : Nat → Prop} {Inv : HS → HS → Prop} (hL : L ≤ 3072) (C0 : lw_At p s m meth c b L xs) (hAs : ∀ q, A q → s.heap.size ≤ q) (hA : ∀ q, s.heap.size ≤ q → A q) (hK : va_K G vwCl (gT cI cJ cZ cB cT) s) (hE : gEX G A s) {q r : Nat → Nat} {m0 : Nat} (hst : LawStep (fun k => k = 8) Inv) {i : Nat} (hi : i + 6 ≤ L) (hback : ∀ (h g : HS), Inv h g → ∀ (H : Heap) (locs : List Loc) (ls : Array Slot), va_P G vwCl (wC q cI cJ cZ cB cT h) H → va_D A (wC q cI cJ cZ cB cT h) → va_P G vwCl (wM m0 r cI cJ cZ cB cT g) H → va_D A (wM m0 r cI cJ cZ cB cT g) → gApart (wC q cI cJ cZ cB cT h) (wM m0 r cI cJ cZ cB cT g) → va_S A s.heap H locs → lv_has ls 4 [(0, .ref b), (1, .ref (q 0)), (2, .ref m0), (3, .int (nI i))] → W p l e room_1 s m #[Value.ref b] below meth c H locs 600000 7302249 (lw_Z below #[Value.ref b] s) (F0 m 1013 ls [])) {h g : HS} (hI : Inv h g) {H : Heap} {locs : List Loc} {ls : Array Slot} (hP : va_P G vwCl (wC q cI cJ cZ cB cT h) H) (hD : va_D A (wC q cI cJ cZ cB cT h)) (hPm : va_P G vwCl (wM m0 r cI cJ cZ cB cT g) H) (hDm : va_D A (wM m0 r cI cJ cZ cB cT g)) (hab : gApart (wC q cI cJ cZ cB cT h) (wM m0 r cI cJ cZ cB cT g)) (hS : va_S A s.heap H locs) (hl : lv_has ls 4 [(0, .ref b), (1, .ref (q 0)), (2, .ref m0), (3, .int (nI i))]) : W p l e room_1 s m #[Value.ref b] below meth c H locs 600000 7302249 (lw_Z below #[Value.ref b] s) (F0 m 372 ls []) := by
  obtain ⟨hx, hb, hr, hml, hown, hts, hX, hbl, hlocks, hgv⟩ := id C0
  have hts : ∀ w ∈ lwc, w.before #[Value.ref b] s = true := fun w h => hts w (lwc_in h)
  have hown : s.vm.findClass RL = some m.cls := hown
  have hbA : ¬ A b := fun h => Nat.lt_irrefl _ (Nat.lt_of_lt_of_le hbl (hAs b h))
  refine lv_aload_n hx hb dL_law_372 rfl (lv_at hl 1 rfl) ?_
  refine lv_aload_n hx hb dL_law_373 rfl (lv_at hl 0 rfl) ?_
  refine lv_iload_n hx hb dL_law_374 rfl (lv_at hl 3 rfl) ?_
  refine lv_iconst (v := 1) hx hb dL_law_375 (by decide) ?_
  refine lv_iadd hx hb dL_law_376 ?_
  refine gw_topi (y := (nI (i + 1))) (nI_add i 1) ?_
  refine gw_sld hx hb hX hbl hbA hS (i + 1) rfl (by omega) (by omega) dL_law_377 ?_
  obtain ⟨r1, h1, r2, g1, e1, e2, hI1, hq⟩ := hst.2.2.2.2.2.2.1 h g (xs (i + 1)) hI
  refine gx2_calli (gx_runV (As := [.int (xs (i + 1))]) (rest := []) ⟨hx, hb, hml, hown, hts⟩ (c_X8_fatten l G cI cJ cZ cB cT q h (xs (i + 1)) r1 h1 e1 H.size) (gG_V m_985 m_828 m_829 m_60 m_826) rfl e_X8_fatten ⟨(Nat.le_of_ble_eq_true rfl), (Nat.le_of_ble_eq_true rfl)⟩ hK hP hD hE hS hA 0 wC_at0 rfl rfl hl.1 rfl (Nat.le_of_ble_eq_true rfl) dL_law_378 ⟨(Nat.le_of_ble_eq_true rfl), (Nat.le_of_ble_eq_true rfl)⟩) hP hD hPm hab hS hA (fun x_1 u_1 H locs hw_1 hP hD hPm hab hS => ?_)
  subst x_1
  refine lv_pop hx hb dL_law_381 rfl ?_
  refine lv_aload_n hx hb dL_law_382 rfl (lv_at hl 2 rfl) ?_
  refine lv_aload_n hx hb dL_law_383 rfl (lv_at hl 0 rfl) ?_
  refine lv_iload_n hx hb dL_law_384 rfl (lv_at hl 3 rfl) ?_
  refine lv_iconst (v := 1) hx hb dL_law_385 (by decide) ?_
  refine lv_iadd hx hb dL_law_386 ?_
  refine gw_topi (y := (nI (i + 1))) (nI_add i 1) ?_
  refine gw_sld hx hb hX hbl hbA hS (i + 1) rfl (by omega) (by omega) dL_law_387 ?_
  refine gx2_calli (gx_runV (As := [.int (xs (i + 1))]) (rest := []) ⟨hx, hb, hml, hown, hts⟩ (c_X9_fatten l G cI cJ cZ cB cT m0 r g (xs (i + 1)) r2 g1 e2 H.size) (gG_V m_986 m_330 m_331 m_64 m_328) rfl e_X9_fatten ⟨(Nat.le_of_ble_eq_true rfl), (Nat.le_of_ble_eq_true rfl)⟩ hK hPm hDm hE hS hA 0 wM_at0 rfl rfl hl.1 rfl (Nat.le_of_ble_eq_true rfl) dL_law_388 ⟨(Nat.le_of_ble_eq_true rfl), (Nat.le_of_ble_eq_true rfl)⟩) hPm hDm hP hab.swap hS hA (fun x_2 u_2 H locs hw_2 hPm hDm hP hba hS => ?_)
  have hab := hba.swap
  subst x_2
  refine lv_pop hx hb dL_law_391 rfl ?_
  refine lv_goto (tgt := 1013) hx hb dL_law_392 (by decide) ?_
  exact hback h1 g1 hI1 H _ ls hP hD hPm hDm hab hS (lv_sub hl [0, 1, 2, 3] rfl)
theorem e_X8_pluck : yX8_pluck.cls = RX8 ∧ yX8_pluck.cls ≠ "java/lang/invoke/MethodHandle" ∧ yX8_pluck.cls ≠ "java/lang/invoke/VarHandle" ∧ (parseMethodDescriptor yX8_pluck.desc).map (fun d => d.parameters.length) = some 1 := by decide +kernel
theorem e_X9_pluck : yX9_pluck.cls = RX9 ∧ yX9_pluck.cls ≠ "java/lang/invoke/MethodHandle" ∧ yX9_pluck.cls ≠ "java/lang/invoke/VarHandle" ∧ (parseMethodDescriptor yX9_pluck.desc).map (fun d => d.parameters.length) = some 1 := by decide +kernel
set_option maxHeartbeats 4000000 in
set_option maxRecDepth 100000 in
theorem law_case7 {p : Program} {l : Launch} {e : Env} {s : State} {m : MethodId} {below : List Frame} {meth : Method} {c : Code} {G : va_G} {cI cJ cZ cB cT : ClassId} {b L : Nat} {xs : Nat → Int32} {A : Nat → Prop} {Inv : HS → HS → Prop} (hL : L ≤ 3072) (C0 : lw_At p s m meth c b L xs) (hAs : ∀ q, A q → s.heap.size ≤ q) (hA : ∀ q, s.heap.size ≤ q → A q) (hK : va_K G vwCl (gT cI cJ cZ cB cT) s) (hE : gEX G A s) {q r : Nat → Nat} {m0 : Nat} (hst : LawStep (fun k => k = 8) Inv) {i : Nat} (hi : i + 6 ≤ L) (hback : ∀ (h g : HS), Inv h g → ∀ (H : Heap) (locs : List Loc) (ls : Array Slot), va_P G vwCl (wC q cI cJ cZ cB cT h) H → va_D A (wC q cI cJ cZ cB cT h) → va_P G vwCl (wM m0 r cI cJ cZ cB cT g) H → va_D A (wM m0 r cI cJ cZ cB cT g) → gApart (wC q cI cJ cZ cB cT h) (wM m0 r cI cJ cZ cB cT g) → va_S A s.heap H locs → lv_has ls 4 [(0, .ref b), (1, .ref (q 0)), (2, .ref m0), (3, .int (nI i))] → W p l e room_1 s m #[Value.ref b] below meth c H locs 600000 7302249 (lw_Z below #[Value.ref b] s) (F0 m 1013 ls [])) {h g : HS} (hI : Inv h g) {H : Heap} {locs : List Loc} {ls : Array Slot} (hP : va_P G vwCl (wC q cI cJ cZ cB cT h) H) (hD : va_D A (wC q cI cJ cZ cB cT h)) (hPm : va_P G vwCl (wM m0 r cI cJ cZ cB cT g) H) (hDm : va_D A (wM m0 r cI cJ cZ cB cT g)) (hab : gApart (wC q cI cJ cZ cB cT h) (wM m0 r cI cJ cZ cB cT g)) (hS : va_S A s.heap H locs) (hl : lv_has ls 4 [(0, .ref b), (1, .ref (q 0)), (2, .ref m0), (3, .int (nI i))]) : W p l e room_1 s m #[Value.ref b] below meth c H locs 600000 7302249 (lw_Z below #[Value.ref b] s) (F0 m 395 ls []) := by
  obtain ⟨hx, hb, hr, hml, hown, hts, hX, hbl, hlocks, hgv⟩ := id C0
  have hts : ∀ w ∈ lwc, w.before #[Value.ref b] s = true := fun w h => hts w (lwc_in h)
  have hown : s.vm.findClass RL = some m.cls := hown
  have hbA : ¬ A b := fun h => Nat.lt_irrefl _ (Nat.lt_of_lt_of_le hbl (hAs b h))
  refine lv_aload_n hx hb dL_law_395 rfl (lv_at hl 1 rfl) ?_
  refine lv_aload_n hx hb dL_law_396 rfl (lv_at hl 0 rfl) ?_
  refine lv_iload_n hx hb dL_law_397 rfl (lv_at hl 3 rfl) ?_
  refine lv_iconst (v := 1) hx hb dL_law_398 (by decide) ?_
  refine lv_iadd hx hb dL_law_399 ?_
  refine gw_topi (y := (nI (i + 1))) (nI_add i 1) ?_
  refine gw_sld hx hb hX hbl hbA hS (i + 1) rfl (by omega) (by omega) dL_law_400 ?_
  obtain ⟨r1, h1, r2, g1, e1, e2, hI1, hq⟩ := hst.2.2.2.2.2.2.2.1 h g (xs (i + 1)) hI
  refine gx2_calli (gx_runV (As := [.int (xs (i + 1))]) (rest := []) ⟨hx, hb, hml, hown, hts⟩ (c_X8_pluck l G cI cJ cZ cB cT q h (xs (i + 1)) r1 h1 e1 H.size) (gG_V m_987 m_988 m_989 m_60 m_990) rfl e_X8_pluck ⟨(Nat.le_of_ble_eq_true rfl), (Nat.le_of_ble_eq_true rfl)⟩ hK hP hD hE hS hA 0 wC_at0 rfl rfl hl.1 rfl (Nat.le_of_ble_eq_true rfl) dL_law_401 ⟨(Nat.le_of_ble_eq_true rfl), (Nat.le_of_ble_eq_true rfl)⟩) hP hD hPm hab hS hA (fun x_1 u_1 H locs hw_1 hP hD hPm hab hS => ?_)
  subst x_1
  refine lv_pop hx hb dL_law_404 rfl ?_
  refine lv_aload_n hx hb dL_law_405 rfl (lv_at hl 2 rfl) ?_
  refine lv_aload_n hx hb dL_law_406 rfl (lv_at hl 0 rfl) ?_
  refine lv_iload_n hx hb dL_law_407 rfl (lv_at hl 3 rfl) ?_
  refine lv_iconst (v := 1) hx hb dL_law_408 (by decide) ?_
  refine lv_iadd hx hb dL_law_409 ?_
  refine gw_topi (y := (nI (i + 1))) (nI_add i 1) ?_
  refine gw_sld hx hb hX hbl hbA hS (i + 1) rfl (by omega) (by omega) dL_law_410 ?_
  refine gx2_calli (gx_runV (As := [.int (xs (i + 1))]) (rest := []) ⟨hx, hb, hml, hown, hts⟩ (c_X9_pluck l G cI cJ cZ cB cT m0 r g (xs (i + 1)) r2 g1 e2 H.size) (gG_V m_991 m_992 m_993 m_64 m_994) rfl e_X9_pluck ⟨(Nat.le_of_ble_eq_true rfl), (Nat.le_of_ble_eq_true rfl)⟩ hK hPm hDm hE hS hA 0 wM_at0 rfl rfl hl.1 rfl (Nat.le_of_ble_eq_true rfl) dL_law_411 ⟨(Nat.le_of_ble_eq_true rfl), (Nat.le_of_ble_eq_true rfl)⟩) hPm hDm hP hab.swap hS hA (fun x_2 u_2 H locs hw_2 hPm hDm hP hba hS => ?_)
  have hab := hba.swap
  subst x_2
  refine lv_pop hx hb dL_law_414 rfl ?_
  refine lv_goto (tgt := 1013) hx hb dL_law_415 (by decide) ?_
  exact hback h1 g1 hI1 H _ ls hP hD hPm hDm hab hS (lv_sub hl [0, 1, 2, 3] rfl)
theorem e_X8_name : yX8_name.cls = RX8 ∧ yX8_name.cls ≠ "java/lang/invoke/MethodHandle" ∧ yX8_name.cls ≠ "java/lang/invoke/VarHandle" ∧ (parseMethodDescriptor yX8_name.desc).map (fun d => d.parameters.length) = some 1 := by decide +kernel
theorem e_X9_name : yX9_name.cls = RX9 ∧ yX9_name.cls ≠ "java/lang/invoke/MethodHandle" ∧ yX9_name.cls ≠ "java/lang/invoke/VarHandle" ∧ (parseMethodDescriptor yX9_name.desc).map (fun d => d.parameters.length) = some 1 := by decide +kernel
set_option maxHeartbeats 4000000 in
set_option maxRecDepth 100000 in
theorem law_case8 {p : Program} {l : Launch} {e : Env} {s : State} {m : MethodId} {below : List Frame} {meth : Method} {c : Code} {G : va_G} {cI cJ cZ cB cT : ClassId} {b L : Nat} {xs : Nat → Int32} {A : Nat → Prop} {Inv : HS → HS → Prop} (hL : L ≤ 3072) (C0 : lw_At p s m meth c b L xs) (hAs : ∀ q, A q → s.heap.size ≤ q) (hA : ∀ q, s.heap.size ≤ q → A q) (hK : va_K G vwCl (gT cI cJ cZ cB cT) s) (hE : gEX G A s) {q r : Nat → Nat} {m0 : Nat} (hst : LawStep (fun k => k = 8) Inv) {i : Nat} (hi : i + 6 ≤ L) (hback : ∀ (h g : HS), Inv h g → ∀ (H : Heap) (locs : List Loc) (ls : Array Slot), va_P G vwCl (wC q cI cJ cZ cB cT h) H → va_D A (wC q cI cJ cZ cB cT h) → va_P G vwCl (wM m0 r cI cJ cZ cB cT g) H → va_D A (wM m0 r cI cJ cZ cB cT g) → gApart (wC q cI cJ cZ cB cT h) (wM m0 r cI cJ cZ cB cT g) → va_S A s.heap H locs → lv_has ls 4 [(0, .ref b), (1, .ref (q 0)), (2, .ref m0), (3, .int (nI i))] → W p l e room_1 s m #[Value.ref b] below meth c H locs 600000 7302249 (lw_Z below #[Value.ref b] s) (F0 m 1013 ls [])) {h g : HS} (hI : Inv h g) {H : Heap} {locs : List Loc} {ls : Array Slot} (hP : va_P G vwCl (wC q cI cJ cZ cB cT h) H) (hD : va_D A (wC q cI cJ cZ cB cT h)) (hPm : va_P G vwCl (wM m0 r cI cJ cZ cB cT g) H) (hDm : va_D A (wM m0 r cI cJ cZ cB cT g)) (hab : gApart (wC q cI cJ cZ cB cT h) (wM m0 r cI cJ cZ cB cT g)) (hS : va_S A s.heap H locs) (hl : lv_has ls 4 [(0, .ref b), (1, .ref (q 0)), (2, .ref m0), (3, .int (nI i))]) : W p l e room_1 s m #[Value.ref b] below meth c H locs 600000 7302249 (lw_Z below #[Value.ref b] s) (F0 m 418 ls []) := by
  obtain ⟨hx, hb, hr, hml, hown, hts, hX, hbl, hlocks, hgv⟩ := id C0
  have hts : ∀ w ∈ lwc, w.before #[Value.ref b] s = true := fun w h => hts w (lwc_in h)
  have hown : s.vm.findClass RL = some m.cls := hown
  have hbA : ¬ A b := fun h => Nat.lt_irrefl _ (Nat.lt_of_lt_of_le hbl (hAs b h))
  refine lv_aload_n hx hb dL_law_418 rfl (lv_at hl 1 rfl) ?_
  refine lv_aload_n hx hb dL_law_419 rfl (lv_at hl 0 rfl) ?_
  refine lv_iload_n hx hb dL_law_420 rfl (lv_at hl 3 rfl) ?_
  refine lv_iconst (v := 1) hx hb dL_law_421 (by decide) ?_
  refine lv_iadd hx hb dL_law_422 ?_
  refine gw_topi (y := (nI (i + 1))) (nI_add i 1) ?_
  refine gw_sld hx hb hX hbl hbA hS (i + 1) rfl (by omega) (by omega) dL_law_423 ?_
  obtain ⟨r1, h1, r2, g1, e1, e2, hI1, hq⟩ := hst.2.2.2.2.2.2.2.2.1 h g (xs (i + 1)) hI
  refine gx2_calli (gx_runV (As := [.int (xs (i + 1))]) (rest := []) ⟨hx, hb, hml, hown, hts⟩ (c_X8_name l G cI cJ cZ cB cT q h (xs (i + 1)) r1 h1 e1 H.size) (gG_V m_995 m_996 m_997 m_60 m_998) rfl e_X8_name ⟨(Nat.le_of_ble_eq_true rfl), (Nat.le_of_ble_eq_true rfl)⟩ hK hP hD hE hS hA 0 wC_at0 rfl rfl hl.1 rfl (Nat.le_of_ble_eq_true rfl) dL_law_424 ⟨(Nat.le_of_ble_eq_true rfl), (Nat.le_of_ble_eq_true rfl)⟩) hP hD hPm hab hS hA (fun x_1 u_1 H locs hw_1 hP hD hPm hab hS => ?_)
  subst x_1
  refine lv_aload_n hx hb dL_law_427 rfl (lv_at hl 2 rfl) ?_
  refine lv_aload_n hx hb dL_law_428 rfl (lv_at hl 0 rfl) ?_
  refine lv_iload_n hx hb dL_law_429 rfl (lv_at hl 3 rfl) ?_
  refine lv_iconst (v := 1) hx hb dL_law_430 (by decide) ?_
  refine lv_iadd hx hb dL_law_431 ?_
  refine gw_topi (y := (nI (i + 1))) (nI_add i 1) ?_
  refine gw_sld hx hb hX hbl hbA hS (i + 1) rfl (by omega) (by omega) dL_law_432 ?_
  refine gx2_calli (gx_runV (As := [.int (xs (i + 1))]) (rest := [.int r1]) ⟨hx, hb, hml, hown, hts⟩ (c_X9_name l G cI cJ cZ cB cT m0 r g (xs (i + 1)) r2 g1 e2 H.size) (gG_V m_999 m_1000 m_1001 m_64 m_1002) rfl e_X9_name ⟨(Nat.le_of_ble_eq_true rfl), (Nat.le_of_ble_eq_true rfl)⟩ hK hPm hDm hE hS hA 0 wM_at0 rfl rfl hl.1 rfl (Nat.le_of_ble_eq_true rfl) dL_law_433 ⟨(Nat.le_of_ble_eq_true rfl), (Nat.le_of_ble_eq_true rfl)⟩) hPm hDm hP hab.swap hS hA (fun x_2 u_2 H locs hw_2 hPm hDm hP hba hS => ?_)
  have hab := hba.swap
  subst x_2
  refine lv_icmp_eq (tgt := 1013) hx hb dL_law_436 (by decide) (fun _ => ?_) (fun c => absurd (hq rfl) c)
  exact hback h1 g1 hI1 H _ ls hP hD hPm hDm hab hS (lv_sub hl [0, 1, 2, 3] rfl)
set_option maxHeartbeats 4000000 in
set_option maxRecDepth 100000 in
theorem law_case9 {p : Program} {l : Launch} {e : Env} {s : State} {m : MethodId} {below : List Frame} {meth : Method} {c : Code} {G : va_G} {cI cJ cZ cB cT : ClassId} {b L : Nat} {xs : Nat → Int32} {A : Nat → Prop} {Inv : HS → HS → Prop} (hL : L ≤ 3072) (C0 : lw_At p s m meth c b L xs) (hAs : ∀ q, A q → s.heap.size ≤ q) (hA : ∀ q, s.heap.size ≤ q → A q) (hK : va_K G vwCl (gT cI cJ cZ cB cT) s) (hE : gEX G A s) {q r : Nat → Nat} {m0 : Nat} (hst : LawStep (fun k => k = 8) Inv) {i : Nat} (hi : i + 6 ≤ L) (hback : ∀ (h g : HS), Inv h g → ∀ (H : Heap) (locs : List Loc) (ls : Array Slot), va_P G vwCl (wC q cI cJ cZ cB cT h) H → va_D A (wC q cI cJ cZ cB cT h) → va_P G vwCl (wM m0 r cI cJ cZ cB cT g) H → va_D A (wM m0 r cI cJ cZ cB cT g) → gApart (wC q cI cJ cZ cB cT h) (wM m0 r cI cJ cZ cB cT g) → va_S A s.heap H locs → lv_has ls 4 [(0, .ref b), (1, .ref (q 0)), (2, .ref m0), (3, .int (nI i))] → W p l e room_1 s m #[Value.ref b] below meth c H locs 600000 7302249 (lw_Z below #[Value.ref b] s) (F0 m 1013 ls [])) {h g : HS} (hI : Inv h g) {H : Heap} {locs : List Loc} {ls : Array Slot} (hP : va_P G vwCl (wC q cI cJ cZ cB cT h) H) (hD : va_D A (wC q cI cJ cZ cB cT h)) (hPm : va_P G vwCl (wM m0 r cI cJ cZ cB cT g) H) (hDm : va_D A (wM m0 r cI cJ cZ cB cT g)) (hab : gApart (wC q cI cJ cZ cB cT h) (wM m0 r cI cJ cZ cB cT g)) (hS : va_S A s.heap H locs) (hl : lv_has ls 4 [(0, .ref b), (1, .ref (q 0)), (2, .ref m0), (3, .int (nI i))]) : W p l e room_1 s m #[Value.ref b] below meth c H locs 600000 7302249 (lw_Z below #[Value.ref b] s) (F0 m 441 ls []) := by
  obtain ⟨hx, hb, hr, hml, hown, hts, hX, hbl, hlocks, hgv⟩ := id C0
  have hts : ∀ w ∈ lwc, w.before #[Value.ref b] s = true := fun w h => hts w (lwc_in h)
  have hown : s.vm.findClass RL = some m.cls := hown
  have hbA : ¬ A b := fun h => Nat.lt_irrefl _ (Nat.lt_of_lt_of_le hbl (hAs b h))
  refine lv_aload_n hx hb dL_law_441 rfl (lv_at hl 1 rfl) ?_
  refine lv_aload_n hx hb dL_law_442 rfl (lv_at hl 0 rfl) ?_
  refine lv_iload_n hx hb dL_law_443 rfl (lv_at hl 3 rfl) ?_
  refine lv_iconst (v := 1) hx hb dL_law_444 (by decide) ?_
  refine lv_iadd hx hb dL_law_445 ?_
  refine gw_topi (y := (nI (i + 1))) (nI_add i 1) ?_
  refine gw_sld hx hb hX hbl hbA hS (i + 1) rfl (by omega) (by omega) dL_law_446 ?_
  obtain ⟨r1, h1, r2, g1, e1, e2, hI1, hq⟩ := hst.2.2.2.2.2.2.2.2.2.1 h g (xs (i + 1)) hI
  refine gx2_calli (gx_runV (As := [.int (xs (i + 1))]) (rest := []) ⟨hx, hb, hml, hown, hts⟩ (c_X8_pass l G cI cJ cZ cB cT q h (xs (i + 1)) r1 h1 e1 H.size) (gG_V m_1003 m_832 m_833 m_60 m_830) rfl e_X8_pass ⟨(Nat.le_of_ble_eq_true rfl), (Nat.le_of_ble_eq_true rfl)⟩ hK hP hD hE hS hA 0 wC_at0 rfl rfl hl.1 rfl (Nat.le_of_ble_eq_true rfl) dL_law_447 ⟨(Nat.le_of_ble_eq_true rfl), (Nat.le_of_ble_eq_true rfl)⟩) hP hD hPm hab hS hA (fun x_1 u_1 H locs hw_1 hP hD hPm hab hS => ?_)
  subst x_1
  refine lv_pop hx hb dL_law_450 rfl ?_
  refine lv_aload_n hx hb dL_law_451 rfl (lv_at hl 2 rfl) ?_
  refine lv_aload_n hx hb dL_law_452 rfl (lv_at hl 0 rfl) ?_
  refine lv_iload_n hx hb dL_law_453 rfl (lv_at hl 3 rfl) ?_
  refine lv_iconst (v := 1) hx hb dL_law_454 (by decide) ?_
  refine lv_iadd hx hb dL_law_455 ?_
  refine gw_topi (y := (nI (i + 1))) (nI_add i 1) ?_
  refine gw_sld hx hb hX hbl hbA hS (i + 1) rfl (by omega) (by omega) dL_law_456 ?_
  refine gx2_calli (gx_runV (As := [.int (xs (i + 1))]) (rest := []) ⟨hx, hb, hml, hown, hts⟩ (c_X9_pass l G cI cJ cZ cB cT m0 r g (xs (i + 1)) r2 g1 e2 H.size) (gG_V m_1004 m_334 m_335 m_64 m_332) rfl e_X9_pass ⟨(Nat.le_of_ble_eq_true rfl), (Nat.le_of_ble_eq_true rfl)⟩ hK hPm hDm hE hS hA 0 wM_at0 rfl rfl hl.1 rfl (Nat.le_of_ble_eq_true rfl) dL_law_457 ⟨(Nat.le_of_ble_eq_true rfl), (Nat.le_of_ble_eq_true rfl)⟩) hPm hDm hP hab.swap hS hA (fun x_2 u_2 H locs hw_2 hPm hDm hP hba hS => ?_)
  have hab := hba.swap
  subst x_2
  refine lv_pop hx hb dL_law_460 rfl ?_
  refine lv_goto (tgt := 1013) hx hb dL_law_461 (by decide) ?_
  exact hback h1 g1 hI1 H _ ls hP hD hPm hDm hab hS (lv_sub hl [0, 1, 2, 3] rfl)
theorem e_X8_feed : yX8_feed.cls = RX8 ∧ yX8_feed.cls ≠ "java/lang/invoke/MethodHandle" ∧ yX8_feed.cls ≠ "java/lang/invoke/VarHandle" ∧ (parseMethodDescriptor yX8_feed.desc).map (fun d => d.parameters.length) = some 5 := by decide +kernel
theorem e_X9_feed : yX9_feed.cls = RX9 ∧ yX9_feed.cls ≠ "java/lang/invoke/MethodHandle" ∧ yX9_feed.cls ≠ "java/lang/invoke/VarHandle" ∧ (parseMethodDescriptor yX9_feed.desc).map (fun d => d.parameters.length) = some 5 := by decide +kernel
set_option maxHeartbeats 4000000 in
set_option maxRecDepth 100000 in
theorem law_case10 {p : Program} {l : Launch} {e : Env} {s : State} {m : MethodId} {below : List Frame} {meth : Method} {c : Code} {G : va_G} {cI cJ cZ cB cT : ClassId} {b L : Nat} {xs : Nat → Int32} {A : Nat → Prop} {Inv : HS → HS → Prop} (hL : L ≤ 3072) (C0 : lw_At p s m meth c b L xs) (hAs : ∀ q, A q → s.heap.size ≤ q) (hA : ∀ q, s.heap.size ≤ q → A q) (hK : va_K G vwCl (gT cI cJ cZ cB cT) s) (hE : gEX G A s) {q r : Nat → Nat} {m0 : Nat} (hst : LawStep (fun k => k = 8) Inv) {i : Nat} (hi : i + 6 ≤ L) (hback : ∀ (h g : HS), Inv h g → ∀ (H : Heap) (locs : List Loc) (ls : Array Slot), va_P G vwCl (wC q cI cJ cZ cB cT h) H → va_D A (wC q cI cJ cZ cB cT h) → va_P G vwCl (wM m0 r cI cJ cZ cB cT g) H → va_D A (wM m0 r cI cJ cZ cB cT g) → gApart (wC q cI cJ cZ cB cT h) (wM m0 r cI cJ cZ cB cT g) → va_S A s.heap H locs → lv_has ls 4 [(0, .ref b), (1, .ref (q 0)), (2, .ref m0), (3, .int (nI i))] → W p l e room_1 s m #[Value.ref b] below meth c H locs 600000 7302249 (lw_Z below #[Value.ref b] s) (F0 m 1013 ls [])) {h g : HS} (hI : Inv h g) {H : Heap} {locs : List Loc} {ls : Array Slot} (hP : va_P G vwCl (wC q cI cJ cZ cB cT h) H) (hD : va_D A (wC q cI cJ cZ cB cT h)) (hPm : va_P G vwCl (wM m0 r cI cJ cZ cB cT g) H) (hDm : va_D A (wM m0 r cI cJ cZ cB cT g)) (hab : gApart (wC q cI cJ cZ cB cT h) (wM m0 r cI cJ cZ cB cT g)) (hS : va_S A s.heap H locs) (hl : lv_has ls 4 [(0, .ref b), (1, .ref (q 0)), (2, .ref m0), (3, .int (nI i))]) : W p l e room_1 s m #[Value.ref b] below meth c H locs 600000 7302249 (lw_Z below #[Value.ref b] s) (F0 m 464 ls []) := by
  obtain ⟨hx, hb, hr, hml, hown, hts, hX, hbl, hlocks, hgv⟩ := id C0
  have hts : ∀ w ∈ lwc, w.before #[Value.ref b] s = true := fun w h => hts w (lwc_in h)
  have hown : s.vm.findClass RL = some m.cls := hown
  have hbA : ¬ A b := fun h => Nat.lt_irrefl _ (Nat.lt_of_lt_of_le hbl (hAs b h))
  refine lv_aload_n hx hb dL_law_464 rfl (lv_at hl 1 rfl) ?_
  refine lv_aload_n hx hb dL_law_465 rfl (lv_at hl 0 rfl) ?_
  refine lv_iload_n hx hb dL_law_466 rfl (lv_at hl 3 rfl) ?_
  refine lv_iconst (v := 1) hx hb dL_law_467 (by decide) ?_
  refine lv_iadd hx hb dL_law_468 ?_
  refine gw_topi (y := (nI (i + 1))) (nI_add i 1) ?_
  refine gw_sld hx hb hX hbl hbA hS (i + 1) rfl (by omega) (by omega) dL_law_469 ?_
  refine lv_aload_n hx hb dL_law_470 rfl (lv_at hl 0 rfl) ?_
  refine lv_iload_n hx hb dL_law_471 rfl (lv_at hl 3 rfl) ?_
  refine lv_iconst (v := 2) hx hb dL_law_472 (by decide) ?_
  refine lv_iadd hx hb dL_law_473 ?_
  refine gw_topi (y := (nI (i + 2))) (nI_add i 2) ?_
  refine gw_sld hx hb hX hbl hbA hS (i + 2) rfl (by omega) (by omega) dL_law_474 ?_
  refine lv_aload_n hx hb dL_law_475 rfl (lv_at hl 0 rfl) ?_
  refine lv_iload_n hx hb dL_law_476 rfl (lv_at hl 3 rfl) ?_
  refine lv_iconst (v := 3) hx hb dL_law_477 (by decide) ?_
  refine lv_iadd hx hb dL_law_478 ?_
  refine gw_topi (y := (nI (i + 3))) (nI_add i 3) ?_
  refine gw_sld hx hb hX hbl hbA hS (i + 3) rfl (by omega) (by omega) dL_law_479 ?_
  refine lv_aload_n hx hb dL_law_480 rfl (lv_at hl 0 rfl) ?_
  refine lv_iload_n hx hb dL_law_481 rfl (lv_at hl 3 rfl) ?_
  refine lv_iconst (v := 4) hx hb dL_law_482 (by decide) ?_
  refine lv_iadd hx hb dL_law_483 ?_
  refine gw_topi (y := (nI (i + 4))) (nI_add i 4) ?_
  refine gw_sld hx hb hX hbl hbA hS (i + 4) rfl (by omega) (by omega) dL_law_484 ?_
  refine lv_aload_n hx hb dL_law_485 rfl (lv_at hl 0 rfl) ?_
  refine lv_iload_n hx hb dL_law_486 rfl (lv_at hl 3 rfl) ?_
  refine lv_iconst (v := 5) hx hb dL_law_487 (by decide) ?_
  refine lv_iadd hx hb dL_law_488 ?_
  refine gw_topi (y := (nI (i + 5))) (nI_add i 5) ?_
  refine gw_sld hx hb hX hbl hbA hS (i + 5) rfl (by omega) (by omega) dL_law_489 ?_
  obtain ⟨r1, h1, r2, g1, e1, e2, hI1, hq⟩ := hst.2.2.2.2.2.2.2.2.2.2.1 h g (xs (i + 1)) (xs (i + 2)) (xs (i + 3)) (xs (i + 4)) (xs (i + 5)) hI
  refine gx2_calli (gx_runV (As := [.int (xs (i + 1)), .int (xs (i + 2)), .int (xs (i + 3)), .int (xs (i + 4)), .int (xs (i + 5))]) (rest := []) ⟨hx, hb, hml, hown, hts⟩ (c_X8_feed l G cI cJ cZ cB cT q h (xs (i + 1)) (xs (i + 2)) (xs (i + 3)) (xs (i + 4)) (xs (i + 5)) r1 h1 e1 H.size) (gG_V m_1005 m_1006 m_1007 m_60 m_1008) rfl e_X8_feed ⟨(Nat.le_of_ble_eq_true rfl), (Nat.le_of_ble_eq_true rfl)⟩ hK hP hD hE hS hA 0 wC_at0 rfl rfl hl.1 rfl (Nat.le_of_ble_eq_true rfl) dL_law_490 ⟨(Nat.le_of_ble_eq_true rfl), (Nat.le_of_ble_eq_true rfl)⟩) hP hD hPm hab hS hA (fun x_1 u_1 H locs hw_1 hP hD hPm hab hS => ?_)
  subst x_1
  refine lv_pop hx hb dL_law_493 rfl ?_
  refine lv_aload_n hx hb dL_law_494 rfl (lv_at hl 2 rfl) ?_
  refine lv_aload_n hx hb dL_law_495 rfl (lv_at hl 0 rfl) ?_
  refine lv_iload_n hx hb dL_law_496 rfl (lv_at hl 3 rfl) ?_
  refine lv_iconst (v := 1) hx hb dL_law_497 (by decide) ?_
  refine lv_iadd hx hb dL_law_498 ?_
  refine gw_topi (y := (nI (i + 1))) (nI_add i 1) ?_
  refine gw_sld hx hb hX hbl hbA hS (i + 1) rfl (by omega) (by omega) dL_law_499 ?_
  refine lv_aload_n hx hb dL_law_500 rfl (lv_at hl 0 rfl) ?_
  refine lv_iload_n hx hb dL_law_501 rfl (lv_at hl 3 rfl) ?_
  refine lv_iconst (v := 2) hx hb dL_law_502 (by decide) ?_
  refine lv_iadd hx hb dL_law_503 ?_
  refine gw_topi (y := (nI (i + 2))) (nI_add i 2) ?_
  refine gw_sld hx hb hX hbl hbA hS (i + 2) rfl (by omega) (by omega) dL_law_504 ?_
  refine lv_aload_n hx hb dL_law_505 rfl (lv_at hl 0 rfl) ?_
  refine lv_iload_n hx hb dL_law_506 rfl (lv_at hl 3 rfl) ?_
  refine lv_iconst (v := 3) hx hb dL_law_507 (by decide) ?_
  refine lv_iadd hx hb dL_law_508 ?_
  refine gw_topi (y := (nI (i + 3))) (nI_add i 3) ?_
  refine gw_sld hx hb hX hbl hbA hS (i + 3) rfl (by omega) (by omega) dL_law_509 ?_
  refine lv_aload_n hx hb dL_law_510 rfl (lv_at hl 0 rfl) ?_
  refine lv_iload_n hx hb dL_law_511 rfl (lv_at hl 3 rfl) ?_
  refine lv_iconst (v := 4) hx hb dL_law_512 (by decide) ?_
  refine lv_iadd hx hb dL_law_513 ?_
  refine gw_topi (y := (nI (i + 4))) (nI_add i 4) ?_
  refine gw_sld hx hb hX hbl hbA hS (i + 4) rfl (by omega) (by omega) dL_law_514 ?_
  refine lv_aload_n hx hb dL_law_515 rfl (lv_at hl 0 rfl) ?_
  refine lv_iload_n hx hb dL_law_516 rfl (lv_at hl 3 rfl) ?_
  refine lv_iconst (v := 5) hx hb dL_law_517 (by decide) ?_
  refine lv_iadd hx hb dL_law_518 ?_
  refine gw_topi (y := (nI (i + 5))) (nI_add i 5) ?_
  refine gw_sld hx hb hX hbl hbA hS (i + 5) rfl (by omega) (by omega) dL_law_519 ?_
  refine gx2_calli (gx_runV (As := [.int (xs (i + 1)), .int (xs (i + 2)), .int (xs (i + 3)), .int (xs (i + 4)), .int (xs (i + 5))]) (rest := []) ⟨hx, hb, hml, hown, hts⟩ (c_X9_feed l G cI cJ cZ cB cT m0 r g (xs (i + 1)) (xs (i + 2)) (xs (i + 3)) (xs (i + 4)) (xs (i + 5)) r2 g1 e2 H.size) (gG_V m_1009 m_1010 m_1011 m_64 m_1012) rfl e_X9_feed ⟨(Nat.le_of_ble_eq_true rfl), (Nat.le_of_ble_eq_true rfl)⟩ hK hPm hDm hE hS hA 0 wM_at0 rfl rfl hl.1 rfl (Nat.le_of_ble_eq_true rfl) dL_law_520 ⟨(Nat.le_of_ble_eq_true rfl), (Nat.le_of_ble_eq_true rfl)⟩) hPm hDm hP hab.swap hS hA (fun x_2 u_2 H locs hw_2 hPm hDm hP hba hS => ?_)
  have hab := hba.swap
  subst x_2
  refine lv_pop hx hb dL_law_523 rfl ?_
  refine lv_goto (tgt := 1013) hx hb dL_law_524 (by decide) ?_
  exact hback h1 g1 hI1 H _ ls hP hD hPm hDm hab hS (lv_sub hl [0, 1, 2, 3] rfl)
theorem e_X8_end : yX8_end.cls = RX8 ∧ yX8_end.cls ≠ "java/lang/invoke/MethodHandle" ∧ yX8_end.cls ≠ "java/lang/invoke/VarHandle" ∧ (parseMethodDescriptor yX8_end.desc).map (fun d => d.parameters.length) = some 1 := by decide +kernel
theorem e_X9_end : yX9_end.cls = RX9 ∧ yX9_end.cls ≠ "java/lang/invoke/MethodHandle" ∧ yX9_end.cls ≠ "java/lang/invoke/VarHandle" ∧ (parseMethodDescriptor yX9_end.desc).map (fun d => d.parameters.length) = some 1 := by decide +kernel
set_option maxHeartbeats 4000000 in
set_option maxRecDepth 100000 in
theorem law_case11 {p : Program} {l : Launch} {e : Env} {s : State} {m : MethodId} {below : List Frame} {meth : Method} {c : Code} {G : va_G} {cI cJ cZ cB cT : ClassId} {b L : Nat} {xs : Nat → Int32} {A : Nat → Prop} {Inv : HS → HS → Prop} (hL : L ≤ 3072) (C0 : lw_At p s m meth c b L xs) (hAs : ∀ q, A q → s.heap.size ≤ q) (hA : ∀ q, s.heap.size ≤ q → A q) (hK : va_K G vwCl (gT cI cJ cZ cB cT) s) (hE : gEX G A s) {q r : Nat → Nat} {m0 : Nat} (hst : LawStep (fun k => k = 8) Inv) {i : Nat} (hi : i + 6 ≤ L) (hback : ∀ (h g : HS), Inv h g → ∀ (H : Heap) (locs : List Loc) (ls : Array Slot), va_P G vwCl (wC q cI cJ cZ cB cT h) H → va_D A (wC q cI cJ cZ cB cT h) → va_P G vwCl (wM m0 r cI cJ cZ cB cT g) H → va_D A (wM m0 r cI cJ cZ cB cT g) → gApart (wC q cI cJ cZ cB cT h) (wM m0 r cI cJ cZ cB cT g) → va_S A s.heap H locs → lv_has ls 4 [(0, .ref b), (1, .ref (q 0)), (2, .ref m0), (3, .int (nI i))] → W p l e room_1 s m #[Value.ref b] below meth c H locs 600000 7302249 (lw_Z below #[Value.ref b] s) (F0 m 1013 ls [])) {h g : HS} (hI : Inv h g) {H : Heap} {locs : List Loc} {ls : Array Slot} (hP : va_P G vwCl (wC q cI cJ cZ cB cT h) H) (hD : va_D A (wC q cI cJ cZ cB cT h)) (hPm : va_P G vwCl (wM m0 r cI cJ cZ cB cT g) H) (hDm : va_D A (wM m0 r cI cJ cZ cB cT g)) (hab : gApart (wC q cI cJ cZ cB cT h) (wM m0 r cI cJ cZ cB cT g)) (hS : va_S A s.heap H locs) (hl : lv_has ls 4 [(0, .ref b), (1, .ref (q 0)), (2, .ref m0), (3, .int (nI i))]) : W p l e room_1 s m #[Value.ref b] below meth c H locs 600000 7302249 (lw_Z below #[Value.ref b] s) (F0 m 527 ls []) := by
  obtain ⟨hx, hb, hr, hml, hown, hts, hX, hbl, hlocks, hgv⟩ := id C0
  have hts : ∀ w ∈ lwc, w.before #[Value.ref b] s = true := fun w h => hts w (lwc_in h)
  have hown : s.vm.findClass RL = some m.cls := hown
  have hbA : ¬ A b := fun h => Nat.lt_irrefl _ (Nat.lt_of_lt_of_le hbl (hAs b h))
  refine lv_aload_n hx hb dL_law_527 rfl (lv_at hl 1 rfl) ?_
  refine lv_aload_n hx hb dL_law_528 rfl (lv_at hl 0 rfl) ?_
  refine lv_iload_n hx hb dL_law_529 rfl (lv_at hl 3 rfl) ?_
  refine lv_iconst (v := 1) hx hb dL_law_530 (by decide) ?_
  refine lv_iadd hx hb dL_law_531 ?_
  refine gw_topi (y := (nI (i + 1))) (nI_add i 1) ?_
  refine gw_sld hx hb hX hbl hbA hS (i + 1) rfl (by omega) (by omega) dL_law_532 ?_
  obtain ⟨r1, h1, r2, g1, e1, e2, hI1, hq⟩ := hst.2.2.2.2.2.2.2.2.2.2.2.1 h g (xs (i + 1)) hI
  refine gx2_calli (gx_runV (As := [.int (xs (i + 1))]) (rest := []) ⟨hx, hb, hml, hown, hts⟩ (c_X8_end l G cI cJ cZ cB cT q h (xs (i + 1)) r1 h1 e1 H.size) (gG_V m_1013 m_1014 m_1015 m_60 m_1016) rfl e_X8_end ⟨(Nat.le_of_ble_eq_true rfl), (Nat.le_of_ble_eq_true rfl)⟩ hK hP hD hE hS hA 0 wC_at0 rfl rfl hl.1 rfl (Nat.le_of_ble_eq_true rfl) dL_law_533 ⟨(Nat.le_of_ble_eq_true rfl), (Nat.le_of_ble_eq_true rfl)⟩) hP hD hPm hab hS hA (fun x_1 u_1 H locs hw_1 hP hD hPm hab hS => ?_)
  subst x_1
  refine lv_pop hx hb dL_law_536 rfl ?_
  refine lv_aload_n hx hb dL_law_537 rfl (lv_at hl 2 rfl) ?_
  refine lv_aload_n hx hb dL_law_538 rfl (lv_at hl 0 rfl) ?_
  refine lv_iload_n hx hb dL_law_539 rfl (lv_at hl 3 rfl) ?_
  refine lv_iconst (v := 1) hx hb dL_law_540 (by decide) ?_
  refine lv_iadd hx hb dL_law_541 ?_
  refine gw_topi (y := (nI (i + 1))) (nI_add i 1) ?_
  refine gw_sld hx hb hX hbl hbA hS (i + 1) rfl (by omega) (by omega) dL_law_542 ?_
  refine gx2_calli (gx_runV (As := [.int (xs (i + 1))]) (rest := []) ⟨hx, hb, hml, hown, hts⟩ (c_X9_end l G cI cJ cZ cB cT m0 r g (xs (i + 1)) r2 g1 e2 H.size) (gG_V m_1017 m_1018 m_1019 m_64 m_1020) rfl e_X9_end ⟨(Nat.le_of_ble_eq_true rfl), (Nat.le_of_ble_eq_true rfl)⟩ hK hPm hDm hE hS hA 0 wM_at0 rfl rfl hl.1 rfl (Nat.le_of_ble_eq_true rfl) dL_law_543 ⟨(Nat.le_of_ble_eq_true rfl), (Nat.le_of_ble_eq_true rfl)⟩) hPm hDm hP hab.swap hS hA (fun x_2 u_2 H locs hw_2 hPm hDm hP hba hS => ?_)
  have hab := hba.swap
  subst x_2
  refine lv_pop hx hb dL_law_546 rfl ?_
  refine lv_goto (tgt := 1013) hx hb dL_law_547 (by decide) ?_
  exact hback h1 g1 hI1 H _ ls hP hD hPm hDm hab hS (lv_sub hl [0, 1, 2, 3] rfl)
theorem e_X8_text : yX8_text.cls = RX8 ∧ yX8_text.cls ≠ "java/lang/invoke/MethodHandle" ∧ yX8_text.cls ≠ "java/lang/invoke/VarHandle" ∧ (parseMethodDescriptor yX8_text.desc).map (fun d => d.parameters.length) = some 0 := by decide +kernel
theorem e_X9_text : yX9_text.cls = RX9 ∧ yX9_text.cls ≠ "java/lang/invoke/MethodHandle" ∧ yX9_text.cls ≠ "java/lang/invoke/VarHandle" ∧ (parseMethodDescriptor yX9_text.desc).map (fun d => d.parameters.length) = some 0 := by decide +kernel
set_option maxHeartbeats 4000000 in
set_option maxRecDepth 100000 in
theorem law_case12 {p : Program} {l : Launch} {e : Env} {s : State} {m : MethodId} {below : List Frame} {meth : Method} {c : Code} {G : va_G} {cI cJ cZ cB cT : ClassId} {b L : Nat} {xs : Nat → Int32} {A : Nat → Prop} {Inv : HS → HS → Prop} (hL : L ≤ 3072) (C0 : lw_At p s m meth c b L xs) (hAs : ∀ q, A q → s.heap.size ≤ q) (hA : ∀ q, s.heap.size ≤ q → A q) (hK : va_K G vwCl (gT cI cJ cZ cB cT) s) (hE : gEX G A s) {q r : Nat → Nat} {m0 : Nat} (hst : LawStep (fun k => k = 8) Inv) {i : Nat} (hi : i + 6 ≤ L) (hback : ∀ (h g : HS), Inv h g → ∀ (H : Heap) (locs : List Loc) (ls : Array Slot), va_P G vwCl (wC q cI cJ cZ cB cT h) H → va_D A (wC q cI cJ cZ cB cT h) → va_P G vwCl (wM m0 r cI cJ cZ cB cT g) H → va_D A (wM m0 r cI cJ cZ cB cT g) → gApart (wC q cI cJ cZ cB cT h) (wM m0 r cI cJ cZ cB cT g) → va_S A s.heap H locs → lv_has ls 4 [(0, .ref b), (1, .ref (q 0)), (2, .ref m0), (3, .int (nI i))] → W p l e room_1 s m #[Value.ref b] below meth c H locs 600000 7302249 (lw_Z below #[Value.ref b] s) (F0 m 1013 ls [])) {h g : HS} (hI : Inv h g) {H : Heap} {locs : List Loc} {ls : Array Slot} (hP : va_P G vwCl (wC q cI cJ cZ cB cT h) H) (hD : va_D A (wC q cI cJ cZ cB cT h)) (hPm : va_P G vwCl (wM m0 r cI cJ cZ cB cT g) H) (hDm : va_D A (wM m0 r cI cJ cZ cB cT g)) (hab : gApart (wC q cI cJ cZ cB cT h) (wM m0 r cI cJ cZ cB cT g)) (hS : va_S A s.heap H locs) (hl : lv_has ls 4 [(0, .ref b), (1, .ref (q 0)), (2, .ref m0), (3, .int (nI i))]) : W p l e room_1 s m #[Value.ref b] below meth c H locs 600000 7302249 (lw_Z below #[Value.ref b] s) (F0 m 550 ls []) := by
  obtain ⟨hx, hb, hr, hml, hown, hts, hX, hbl, hlocks, hgv⟩ := id C0
  have hts : ∀ w ∈ lwc, w.before #[Value.ref b] s = true := fun w h => hts w (lwc_in h)
  have hown : s.vm.findClass RL = some m.cls := hown
  have hbA : ¬ A b := fun h => Nat.lt_irrefl _ (Nat.lt_of_lt_of_le hbl (hAs b h))
  refine lv_aload_n hx hb dL_law_550 rfl (lv_at hl 1 rfl) ?_
  obtain ⟨r1, h1, r2, g1, e1, e2, hI1, hq⟩ := hst.2.2.2.2.2.2.2.2.2.2.2.2.1 h g  hI
  refine gx2_calli (gx_runV (As := []) (rest := []) ⟨hx, hb, hml, hown, hts⟩ (c_X8_text l G cI cJ cZ cB cT q h  r1 h1 e1 H.size) (gG_V m_1021 m_1022 m_1023 m_60 m_1024) rfl e_X8_text ⟨(Nat.le_of_ble_eq_true rfl), (Nat.le_of_ble_eq_true rfl)⟩ hK hP hD hE hS hA 0 wC_at0 rfl rfl hl.1 rfl (Nat.le_of_ble_eq_true rfl) dL_law_551 ⟨(Nat.le_of_ble_eq_true rfl), (Nat.le_of_ble_eq_true rfl)⟩) hP hD hPm hab hS hA (fun x_1 u_1 H locs hw_1 hP hD hPm hab hS => ?_)
  subst x_1
  refine lv_pop hx hb dL_law_554 rfl ?_
  refine lv_aload_n hx hb dL_law_555 rfl (lv_at hl 2 rfl) ?_
  refine gx2_calli (gx_runV (As := []) (rest := []) ⟨hx, hb, hml, hown, hts⟩ (c_X9_text l G cI cJ cZ cB cT m0 r g  r2 g1 e2 H.size) (gG_V m_1025 m_1026 m_1027 m_64 m_1028) rfl e_X9_text ⟨(Nat.le_of_ble_eq_true rfl), (Nat.le_of_ble_eq_true rfl)⟩ hK hPm hDm hE hS hA 0 wM_at0 rfl rfl hl.1 rfl (Nat.le_of_ble_eq_true rfl) dL_law_556 ⟨(Nat.le_of_ble_eq_true rfl), (Nat.le_of_ble_eq_true rfl)⟩) hPm hDm hP hab.swap hS hA (fun x_2 u_2 H locs hw_2 hPm hDm hP hba hS => ?_)
  have hab := hba.swap
  subst x_2
  refine lv_pop hx hb dL_law_559 rfl ?_
  refine lv_goto (tgt := 1013) hx hb dL_law_560 (by decide) ?_
  exact hback h1 g1 hI1 H _ ls hP hD hPm hDm hab hS (lv_sub hl [0, 1, 2, 3] rfl)
theorem e_X8_fault : yX8_fault.cls = RX8 ∧ yX8_fault.cls ≠ "java/lang/invoke/MethodHandle" ∧ yX8_fault.cls ≠ "java/lang/invoke/VarHandle" ∧ (parseMethodDescriptor yX8_fault.desc).map (fun d => d.parameters.length) = some 1 := by decide +kernel
theorem e_X9_fault : yX9_fault.cls = RX9 ∧ yX9_fault.cls ≠ "java/lang/invoke/MethodHandle" ∧ yX9_fault.cls ≠ "java/lang/invoke/VarHandle" ∧ (parseMethodDescriptor yX9_fault.desc).map (fun d => d.parameters.length) = some 1 := by decide +kernel
set_option maxHeartbeats 4000000 in
set_option maxRecDepth 100000 in
theorem law_case13 {p : Program} {l : Launch} {e : Env} {s : State} {m : MethodId} {below : List Frame} {meth : Method} {c : Code} {G : va_G} {cI cJ cZ cB cT : ClassId} {b L : Nat} {xs : Nat → Int32} {A : Nat → Prop} {Inv : HS → HS → Prop} (hL : L ≤ 3072) (C0 : lw_At p s m meth c b L xs) (hAs : ∀ q, A q → s.heap.size ≤ q) (hA : ∀ q, s.heap.size ≤ q → A q) (hK : va_K G vwCl (gT cI cJ cZ cB cT) s) (hE : gEX G A s) {q r : Nat → Nat} {m0 : Nat} (hst : LawStep (fun k => k = 8) Inv) {i : Nat} (hi : i + 6 ≤ L) (hback : ∀ (h g : HS), Inv h g → ∀ (H : Heap) (locs : List Loc) (ls : Array Slot), va_P G vwCl (wC q cI cJ cZ cB cT h) H → va_D A (wC q cI cJ cZ cB cT h) → va_P G vwCl (wM m0 r cI cJ cZ cB cT g) H → va_D A (wM m0 r cI cJ cZ cB cT g) → gApart (wC q cI cJ cZ cB cT h) (wM m0 r cI cJ cZ cB cT g) → va_S A s.heap H locs → lv_has ls 4 [(0, .ref b), (1, .ref (q 0)), (2, .ref m0), (3, .int (nI i))] → W p l e room_1 s m #[Value.ref b] below meth c H locs 600000 7302249 (lw_Z below #[Value.ref b] s) (F0 m 1013 ls [])) {h g : HS} (hI : Inv h g) {H : Heap} {locs : List Loc} {ls : Array Slot} (hP : va_P G vwCl (wC q cI cJ cZ cB cT h) H) (hD : va_D A (wC q cI cJ cZ cB cT h)) (hPm : va_P G vwCl (wM m0 r cI cJ cZ cB cT g) H) (hDm : va_D A (wM m0 r cI cJ cZ cB cT g)) (hab : gApart (wC q cI cJ cZ cB cT h) (wM m0 r cI cJ cZ cB cT g)) (hS : va_S A s.heap H locs) (hl : lv_has ls 4 [(0, .ref b), (1, .ref (q 0)), (2, .ref m0), (3, .int (nI i))]) : W p l e room_1 s m #[Value.ref b] below meth c H locs 600000 7302249 (lw_Z below #[Value.ref b] s) (F0 m 563 ls []) := by
  obtain ⟨hx, hb, hr, hml, hown, hts, hX, hbl, hlocks, hgv⟩ := id C0
  have hts : ∀ w ∈ lwc, w.before #[Value.ref b] s = true := fun w h => hts w (lwc_in h)
  have hown : s.vm.findClass RL = some m.cls := hown
  have hbA : ¬ A b := fun h => Nat.lt_irrefl _ (Nat.lt_of_lt_of_le hbl (hAs b h))
  refine lv_aload_n hx hb dL_law_563 rfl (lv_at hl 1 rfl) ?_
  refine lv_aload_n hx hb dL_law_564 rfl (lv_at hl 0 rfl) ?_
  refine lv_iload_n hx hb dL_law_565 rfl (lv_at hl 3 rfl) ?_
  refine lv_iconst (v := 1) hx hb dL_law_566 (by decide) ?_
  refine lv_iadd hx hb dL_law_567 ?_
  refine gw_topi (y := (nI (i + 1))) (nI_add i 1) ?_
  refine gw_sld hx hb hX hbl hbA hS (i + 1) rfl (by omega) (by omega) dL_law_568 ?_
  obtain ⟨r1, h1, r2, g1, e1, e2, hI1, hq⟩ := hst.2.2.2.2.2.2.2.2.2.2.2.2.2.1 h g (xs (i + 1)) hI
  refine gx2_calli (gx_runV (As := [.int (xs (i + 1))]) (rest := []) ⟨hx, hb, hml, hown, hts⟩ (c_X8_fault l G cI cJ cZ cB cT q h (xs (i + 1)) r1 h1 e1 H.size) (gG_V m_1029 m_1030 m_1031 m_60 m_1032) rfl e_X8_fault ⟨(Nat.le_of_ble_eq_true rfl), (Nat.le_of_ble_eq_true rfl)⟩ hK hP hD hE hS hA 0 wC_at0 rfl rfl hl.1 rfl (Nat.le_of_ble_eq_true rfl) dL_law_569 ⟨(Nat.le_of_ble_eq_true rfl), (Nat.le_of_ble_eq_true rfl)⟩) hP hD hPm hab hS hA (fun x_1 u_1 H locs hw_1 hP hD hPm hab hS => ?_)
  subst x_1
  refine lv_pop hx hb dL_law_572 rfl ?_
  refine lv_aload_n hx hb dL_law_573 rfl (lv_at hl 2 rfl) ?_
  refine lv_aload_n hx hb dL_law_574 rfl (lv_at hl 0 rfl) ?_
  refine lv_iload_n hx hb dL_law_575 rfl (lv_at hl 3 rfl) ?_
  refine lv_iconst (v := 1) hx hb dL_law_576 (by decide) ?_
  refine lv_iadd hx hb dL_law_577 ?_
  refine gw_topi (y := (nI (i + 1))) (nI_add i 1) ?_
  refine gw_sld hx hb hX hbl hbA hS (i + 1) rfl (by omega) (by omega) dL_law_578 ?_
  refine gx2_calli (gx_runV (As := [.int (xs (i + 1))]) (rest := []) ⟨hx, hb, hml, hown, hts⟩ (c_X9_fault l G cI cJ cZ cB cT m0 r g (xs (i + 1)) r2 g1 e2 H.size) (gG_V m_1033 m_1034 m_1035 m_64 m_1036) rfl e_X9_fault ⟨(Nat.le_of_ble_eq_true rfl), (Nat.le_of_ble_eq_true rfl)⟩ hK hPm hDm hE hS hA 0 wM_at0 rfl rfl hl.1 rfl (Nat.le_of_ble_eq_true rfl) dL_law_579 ⟨(Nat.le_of_ble_eq_true rfl), (Nat.le_of_ble_eq_true rfl)⟩) hPm hDm hP hab.swap hS hA (fun x_2 u_2 H locs hw_2 hPm hDm hP hba hS => ?_)
  have hab := hba.swap
  subst x_2
  refine lv_pop hx hb dL_law_582 rfl ?_
  refine lv_goto (tgt := 1013) hx hb dL_law_583 (by decide) ?_
  exact hback h1 g1 hI1 H _ ls hP hD hPm hDm hab hS (lv_sub hl [0, 1, 2, 3] rfl)
theorem e_X8_by : yX8_by.cls = RX8 ∧ yX8_by.cls ≠ "java/lang/invoke/MethodHandle" ∧ yX8_by.cls ≠ "java/lang/invoke/VarHandle" ∧ (parseMethodDescriptor yX8_by.desc).map (fun d => d.parameters.length) = some 1 := by decide +kernel
theorem e_X9_by : yX9_by.cls = RX9 ∧ yX9_by.cls ≠ "java/lang/invoke/MethodHandle" ∧ yX9_by.cls ≠ "java/lang/invoke/VarHandle" ∧ (parseMethodDescriptor yX9_by.desc).map (fun d => d.parameters.length) = some 1 := by decide +kernel
set_option maxHeartbeats 4000000 in
set_option maxRecDepth 100000 in
theorem law_case14 {p : Program} {l : Launch} {e : Env} {s : State} {m : MethodId} {below : List Frame} {meth : Method} {c : Code} {G : va_G} {cI cJ cZ cB cT : ClassId} {b L : Nat} {xs : Nat → Int32} {A : Nat → Prop} {Inv : HS → HS → Prop} (hL : L ≤ 3072) (C0 : lw_At p s m meth c b L xs) (hAs : ∀ q, A q → s.heap.size ≤ q) (hA : ∀ q, s.heap.size ≤ q → A q) (hK : va_K G vwCl (gT cI cJ cZ cB cT) s) (hE : gEX G A s) {q r : Nat → Nat} {m0 : Nat} (hst : LawStep (fun k => k = 8) Inv) {i : Nat} (hi : i + 6 ≤ L) (hback : ∀ (h g : HS), Inv h g → ∀ (H : Heap) (locs : List Loc) (ls : Array Slot), va_P G vwCl (wC q cI cJ cZ cB cT h) H → va_D A (wC q cI cJ cZ cB cT h) → va_P G vwCl (wM m0 r cI cJ cZ cB cT g) H → va_D A (wM m0 r cI cJ cZ cB cT g) → gApart (wC q cI cJ cZ cB cT h) (wM m0 r cI cJ cZ cB cT g) → va_S A s.heap H locs → lv_has ls 4 [(0, .ref b), (1, .ref (q 0)), (2, .ref m0), (3, .int (nI i))] → W p l e room_1 s m #[Value.ref b] below meth c H locs 600000 7302249 (lw_Z below #[Value.ref b] s) (F0 m 1013 ls [])) {h g : HS} (hI : Inv h g) {H : Heap} {locs : List Loc} {ls : Array Slot} (hP : va_P G vwCl (wC q cI cJ cZ cB cT h) H) (hD : va_D A (wC q cI cJ cZ cB cT h)) (hPm : va_P G vwCl (wM m0 r cI cJ cZ cB cT g) H) (hDm : va_D A (wM m0 r cI cJ cZ cB cT g)) (hab : gApart (wC q cI cJ cZ cB cT h) (wM m0 r cI cJ cZ cB cT g)) (hS : va_S A s.heap H locs) (hl : lv_has ls 4 [(0, .ref b), (1, .ref (q 0)), (2, .ref m0), (3, .int (nI i))]) : W p l e room_1 s m #[Value.ref b] below meth c H locs 600000 7302249 (lw_Z below #[Value.ref b] s) (F0 m 586 ls []) := by
  obtain ⟨hx, hb, hr, hml, hown, hts, hX, hbl, hlocks, hgv⟩ := id C0
  have hts : ∀ w ∈ lwc, w.before #[Value.ref b] s = true := fun w h => hts w (lwc_in h)
  have hown : s.vm.findClass RL = some m.cls := hown
  have hbA : ¬ A b := fun h => Nat.lt_irrefl _ (Nat.lt_of_lt_of_le hbl (hAs b h))
  refine lv_aload_n hx hb dL_law_586 rfl (lv_at hl 1 rfl) ?_
  refine lv_aload_n hx hb dL_law_587 rfl (lv_at hl 0 rfl) ?_
  refine lv_iload_n hx hb dL_law_588 rfl (lv_at hl 3 rfl) ?_
  refine lv_iconst (v := 1) hx hb dL_law_589 (by decide) ?_
  refine lv_iadd hx hb dL_law_590 ?_
  refine gw_topi (y := (nI (i + 1))) (nI_add i 1) ?_
  refine gw_sld hx hb hX hbl hbA hS (i + 1) rfl (by omega) (by omega) dL_law_591 ?_
  obtain ⟨r1, h1, r2, g1, e1, e2, hI1, hq⟩ := hst.2.2.2.2.2.2.2.2.2.2.2.2.2.2.1 h g (xs (i + 1)) hI
  refine gx2_calli (gx_runV (As := [.int (xs (i + 1))]) (rest := []) ⟨hx, hb, hml, hown, hts⟩ (c_X8_by l G cI cJ cZ cB cT q h (xs (i + 1)) r1 h1 e1 H.size) (gG_V m_1037 m_1038 m_1039 m_60 m_1040) rfl e_X8_by ⟨(Nat.le_of_ble_eq_true rfl), (Nat.le_of_ble_eq_true rfl)⟩ hK hP hD hE hS hA 0 wC_at0 rfl rfl hl.1 rfl (Nat.le_of_ble_eq_true rfl) dL_law_592 ⟨(Nat.le_of_ble_eq_true rfl), (Nat.le_of_ble_eq_true rfl)⟩) hP hD hPm hab hS hA (fun x_1 u_1 H locs hw_1 hP hD hPm hab hS => ?_)
  subst x_1
  refine lv_pop hx hb dL_law_595 rfl ?_
  refine lv_aload_n hx hb dL_law_596 rfl (lv_at hl 2 rfl) ?_
  refine lv_aload_n hx hb dL_law_597 rfl (lv_at hl 0 rfl) ?_
  refine lv_iload_n hx hb dL_law_598 rfl (lv_at hl 3 rfl) ?_
  refine lv_iconst (v := 1) hx hb dL_law_599 (by decide) ?_
  refine lv_iadd hx hb dL_law_600 ?_
  refine gw_topi (y := (nI (i + 1))) (nI_add i 1) ?_
  refine gw_sld hx hb hX hbl hbA hS (i + 1) rfl (by omega) (by omega) dL_law_601 ?_
  refine gx2_calli (gx_runV (As := [.int (xs (i + 1))]) (rest := []) ⟨hx, hb, hml, hown, hts⟩ (c_X9_by l G cI cJ cZ cB cT m0 r g (xs (i + 1)) r2 g1 e2 H.size) (gG_V m_1041 m_1042 m_1043 m_64 m_1044) rfl e_X9_by ⟨(Nat.le_of_ble_eq_true rfl), (Nat.le_of_ble_eq_true rfl)⟩ hK hPm hDm hE hS hA 0 wM_at0 rfl rfl hl.1 rfl (Nat.le_of_ble_eq_true rfl) dL_law_602 ⟨(Nat.le_of_ble_eq_true rfl), (Nat.le_of_ble_eq_true rfl)⟩) hPm hDm hP hab.swap hS hA (fun x_2 u_2 H locs hw_2 hPm hDm hP hba hS => ?_)
  have hab := hba.swap
  subst x_2
  refine lv_pop hx hb dL_law_605 rfl ?_
  refine lv_goto (tgt := 1013) hx hb dL_law_606 (by decide) ?_
  exact hback h1 g1 hI1 H _ ls hP hD hPm hDm hab hS (lv_sub hl [0, 1, 2, 3] rfl)
theorem e_X8_played : yX8_played.cls = RX8 ∧ yX8_played.cls ≠ "java/lang/invoke/MethodHandle" ∧ yX8_played.cls ≠ "java/lang/invoke/VarHandle" ∧ (parseMethodDescriptor yX8_played.desc).map (fun d => d.parameters.length) = some 1 := by decide +kernel
theorem e_X9_played : yX9_played.cls = RX9 ∧ yX9_played.cls ≠ "java/lang/invoke/MethodHandle" ∧ yX9_played.cls ≠ "java/lang/invoke/VarHandle" ∧ (parseMethodDescriptor yX9_played.desc).map (fun d => d.parameters.length) = some 1 := by decide +kernel
set_option maxHeartbeats 4000000 in
set_option maxRecDepth 100000 in
theorem law_case15 {p : Program} {l : Launch} {e : Env} {s : State} {m : MethodId} {below : List Frame} {meth : Method} {c : Code} {G : va_G} {cI cJ cZ cB cT : ClassId} {b L : Nat} {xs : Nat → Int32} {A : Nat → Prop} {Inv : HS → HS → Prop} (hL : L ≤ 3072) (C0 : lw_At p s m meth c b L xs) (hAs : ∀ q, A q → s.heap.size ≤ q) (hA : ∀ q, s.heap.size ≤ q → A q) (hK : va_K G vwCl (gT cI cJ cZ cB cT) s) (hE : gEX G A s) {q r : Nat → Nat} {m0 : Nat} (hst : LawStep (fun k => k = 8) Inv) {i : Nat} (hi : i + 6 ≤ L) (hback : ∀ (h g : HS), Inv h g → ∀ (H : Heap) (locs : List Loc) (ls : Array Slot), va_P G vwCl (wC q cI cJ cZ cB cT h) H → va_D A (wC q cI cJ cZ cB cT h) → va_P G vwCl (wM m0 r cI cJ cZ cB cT g) H → va_D A (wM m0 r cI cJ cZ cB cT g) → gApart (wC q cI cJ cZ cB cT h) (wM m0 r cI cJ cZ cB cT g) → va_S A s.heap H locs → lv_has ls 4 [(0, .ref b), (1, .ref (q 0)), (2, .ref m0), (3, .int (nI i))] → W p l e room_1 s m #[Value.ref b] below meth c H locs 600000 7302249 (lw_Z below #[Value.ref b] s) (F0 m 1013 ls [])) {h g : HS} (hI : Inv h g) {H : Heap} {locs : List Loc} {ls : Array Slot} (hP : va_P G vwCl (wC q cI cJ cZ cB cT h) H) (hD : va_D A (wC q cI cJ cZ cB cT h)) (hPm : va_P G vwCl (wM m0 r cI cJ cZ cB cT g) H) (hDm : va_D A (wM m0 r cI cJ cZ cB cT g)) (hab : gApart (wC q cI cJ cZ cB cT h) (wM m0 r cI cJ cZ cB cT g)) (hS : va_S A s.heap H locs) (hl : lv_has ls 4 [(0, .ref b), (1, .ref (q 0)), (2, .ref m0), (3, .int (nI i))]) : W p l e room_1 s m #[Value.ref b] below meth c H locs 600000 7302249 (lw_Z below #[Value.ref b] s) (F0 m 609 ls []) := by
  obtain ⟨hx, hb, hr, hml, hown, hts, hX, hbl, hlocks, hgv⟩ := id C0
  have hts : ∀ w ∈ lwc, w.before #[Value.ref b] s = true := fun w h => hts w (lwc_in h)
  have hown : s.vm.findClass RL = some m.cls := hown
  have hbA : ¬ A b := fun h => Nat.lt_irrefl _ (Nat.lt_of_lt_of_le hbl (hAs b h))
  refine lv_aload_n hx hb dL_law_609 rfl (lv_at hl 1 rfl) ?_
  refine lv_aload_n hx hb dL_law_610 rfl (lv_at hl 0 rfl) ?_
  refine lv_iload_n hx hb dL_law_611 rfl (lv_at hl 3 rfl) ?_
  refine lv_iconst (v := 1) hx hb dL_law_612 (by decide) ?_
  refine lv_iadd hx hb dL_law_613 ?_
  refine gw_topi (y := (nI (i + 1))) (nI_add i 1) ?_
  refine gw_sld hx hb hX hbl hbA hS (i + 1) rfl (by omega) (by omega) dL_law_614 ?_
  obtain ⟨r1, h1, r2, g1, e1, e2, hI1, hq⟩ := hst.2.2.2.2.2.2.2.2.2.2.2.2.2.2.2.1 h g (xs (i + 1)) hI
  refine gx2_calli (gx_runV (As := [.int (xs (i + 1))]) (rest := []) ⟨hx, hb, hml, hown, hts⟩ (c_X8_played l G cI cJ cZ cB cT q h (xs (i + 1)) r1 h1 e1 H.size) (gG_V m_1045 m_1046 m_1047 m_60 m_1048) rfl e_X8_played ⟨(Nat.le_of_ble_eq_true rfl), (Nat.le_of_ble_eq_true rfl)⟩ hK hP hD hE hS hA 0 wC_at0 rfl rfl hl.1 rfl (Nat.le_of_ble_eq_true rfl) dL_law_615 ⟨(Nat.le_of_ble_eq_true rfl), (Nat.le_of_ble_eq_true rfl)⟩) hP hD hPm hab hS hA (fun x_1 u_1 H locs hw_1 hP hD hPm hab hS => ?_)
  subst x_1
  refine lv_pop hx hb dL_law_618 rfl ?_
  refine lv_aload_n hx hb dL_law_619 rfl (lv_at hl 2 rfl) ?_
  refine lv_aload_n hx hb dL_law_620 rfl (lv_at hl 0 rfl) ?_
  refine lv_iload_n hx hb dL_law_621 rfl (lv_at hl 3 rfl) ?_
  refine lv_iconst (v := 1) hx hb dL_law_622 (by decide) ?_
  refine lv_iadd hx hb dL_law_623 ?_
  refine gw_topi (y := (nI (i + 1))) (nI_add i 1) ?_
  refine gw_sld hx hb hX hbl hbA hS (i + 1) rfl (by omega) (by omega) dL_law_624 ?_
  refine gx2_calli (gx_runV (As := [.int (xs (i + 1))]) (rest := []) ⟨hx, hb, hml, hown, hts⟩ (c_X9_played l G cI cJ cZ cB cT m0 r g (xs (i + 1)) r2 g1 e2 H.size) (gG_V m_1049 m_1050 m_1051 m_64 m_1052) rfl e_X9_played ⟨(Nat.le_of_ble_eq_true rfl), (Nat.le_of_ble_eq_true rfl)⟩ hK hPm hDm hE hS hA 0 wM_at0 rfl rfl hl.1 rfl (Nat.le_of_ble_eq_true rfl) dL_law_625 ⟨(Nat.le_of_ble_eq_true rfl), (Nat.le_of_ble_eq_true rfl)⟩) hPm hDm hP hab.swap hS hA (fun x_2 u_2 H locs hw_2 hPm hDm hP hba hS => ?_)
  have hab := hba.swap
  subst x_2
  refine lv_pop hx hb dL_law_628 rfl ?_
  refine lv_goto (tgt := 1013) hx hb dL_law_629 (by decide) ?_
  exact hback h1 g1 hI1 H _ ls hP hD hPm hDm hab hS (lv_sub hl [0, 1, 2, 3] rfl)
theorem e_X8_undo : yX8_undo.cls = RX8 ∧ yX8_undo.cls ≠ "java/lang/invoke/MethodHandle" ∧ yX8_undo.cls ≠ "java/lang/invoke/VarHandle" ∧ (parseMethodDescriptor yX8_undo.desc).map (fun d => d.parameters.length) = some 0 := by decide +kernel
theorem e_X9_undo : yX9_undo.cls = RX9 ∧ yX9_undo.cls ≠ "java/lang/invoke/MethodHandle" ∧ yX9_undo.cls ≠ "java/lang/invoke/VarHandle" ∧ (parseMethodDescriptor yX9_undo.desc).map (fun d => d.parameters.length) = some 0 := by decide +kernel
set_option maxHeartbeats 4000000 in
set_option maxRecDepth 100000 in
theorem law_case16 {p : Program} {l : Launch} {e : Env} {s : State} {m : MethodId} {below : List Frame} {meth : Method} {c : Code} {G : va_G} {cI cJ cZ cB cT : ClassId} {b L : Nat} {xs : Nat → Int32} {A : Nat → Prop} {Inv : HS → HS → Prop} (hL : L ≤ 3072) (C0 : lw_At p s m meth c b L xs) (hAs : ∀ q, A q → s.heap.size ≤ q) (hA : ∀ q, s.heap.size ≤ q → A q) (hK : va_K G vwCl (gT cI cJ cZ cB cT) s) (hE : gEX G A s) {q r : Nat → Nat} {m0 : Nat} (hst : LawStep (fun k => k = 8) Inv) {i : Nat} (hi : i + 6 ≤ L) (hback : ∀ (h g : HS), Inv h g → ∀ (H : Heap) (locs : List Loc) (ls : Array Slot), va_P G vwCl (wC q cI cJ cZ cB cT h) H → va_D A (wC q cI cJ cZ cB cT h) → va_P G vwCl (wM m0 r cI cJ cZ cB cT g) H → va_D A (wM m0 r cI cJ cZ cB cT g) → gApart (wC q cI cJ cZ cB cT h) (wM m0 r cI cJ cZ cB cT g) → va_S A s.heap H locs → lv_has ls 4 [(0, .ref b), (1, .ref (q 0)), (2, .ref m0), (3, .int (nI i))] → W p l e room_1 s m #[Value.ref b] below meth c H locs 600000 7302249 (lw_Z below #[Value.ref b] s) (F0 m 1013 ls [])) {h g : HS} (hI : Inv h g) {H : Heap} {locs : List Loc} {ls : Array Slot} (hP : va_P G vwCl (wC q cI cJ cZ cB cT h) H) (hD : va_D A (wC q cI cJ cZ cB cT h)) (hPm : va_P G vwCl (wM m0 r cI cJ cZ cB cT g) H) (hDm : va_D A (wM m0 r cI cJ cZ cB cT g)) (hab : gApart (wC q cI cJ cZ cB cT h) (wM m0 r cI cJ cZ cB cT g)) (hS : va_S A s.heap H locs) (hl : lv_has ls 4 [(0, .ref b), (1, .ref (q 0)), (2, .ref m0), (3, .int (nI i))]) : W p l e room_1 s m #[Value.ref b] below meth c H locs 600000 7302249 (lw_Z below #[Value.ref b] s) (F0 m 632 ls []) := by
  obtain ⟨hx, hb, hr, hml, hown, hts, hX, hbl, hlocks, hgv⟩ := id C0
  have hts : ∀ w ∈ lwc, w.before #[Value.ref b] s = true := fun w h => hts w (lwc_in h)
  have hown : s.vm.findClass RL = some m.cls := hown
  have hbA : ¬ A b := fun h => Nat.lt_irrefl _ (Nat.lt_of_lt_of_le hbl (hAs b h))
  refine lv_aload_n hx hb dL_law_632 rfl (lv_at hl 1 rfl) ?_
  obtain ⟨r1, h1, r2, g1, e1, e2, hI1, hq⟩ := hst.2.2.2.2.2.2.2.2.2.2.2.2.2.2.2.2.1 h g  hI
  refine gx2_calli (gx_runV (As := []) (rest := []) ⟨hx, hb, hml, hown, hts⟩ (c_X8_undo l G cI cJ cZ cB cT q h  r1 h1 e1 H.size) (gG_V m_1053 m_1054 m_1055 m_60 m_1056) rfl e_X8_undo ⟨(Nat.le_of_ble_eq_true rfl), (Nat.le_of_ble_eq_true rfl)⟩ hK hP hD hE hS hA 0 wC_at0 rfl rfl hl.1 rfl (Nat.le_of_ble_eq_true rfl) dL_law_633 ⟨(Nat.le_of_ble_eq_true rfl), (Nat.le_of_ble_eq_true rfl)⟩) hP hD hPm hab hS hA (fun x_1 u_1 H locs hw_1 hP hD hPm hab hS => ?_)
  subst x_1
  refine lv_pop hx hb dL_law_636 rfl ?_
  refine lv_aload_n hx hb dL_law_637 rfl (lv_at hl 2 rfl) ?_
  refine gx2_calli (gx_runV (As := []) (rest := []) ⟨hx, hb, hml, hown, hts⟩ (c_X9_undo l G cI cJ cZ cB cT m0 r g  r2 g1 e2 H.size) (gG_V m_1057 m_1058 m_1059 m_64 m_1060) rfl e_X9_undo ⟨(Nat.le_of_ble_eq_true rfl), (Nat.le_of_ble_eq_true rfl)⟩ hK hPm hDm hE hS hA 0 wM_at0 rfl rfl hl.1 rfl (Nat.le_of_ble_eq_true rfl) dL_law_638 ⟨(Nat.le_of_ble_eq_true rfl), (Nat.le_of_ble_eq_true rfl)⟩) hPm hDm hP hab.swap hS hA (fun x_2 u_2 H locs hw_2 hPm hDm hP hba hS => ?_)
  have hab := hba.swap
  subst x_2
  refine lv_pop hx hb dL_law_641 rfl ?_
  refine lv_goto (tgt := 1013) hx hb dL_law_642 (by decide) ?_
  exact hback h1 g1 hI1 H _ ls hP hD hPm hDm hab hS (lv_sub hl [0, 1, 2, 3] rfl)
theorem e_X8_of : yX8_of.cls = RX8 ∧ yX8_of.cls ≠ "java/lang/invoke/MethodHandle" ∧ yX8_of.cls ≠ "java/lang/invoke/VarHandle" ∧ (parseMethodDescriptor yX8_of.desc).map (fun d => d.parameters.length) = some 2 := by decide +kernel
theorem e_X9_of : yX9_of.cls = RX9 ∧ yX9_of.cls ≠ "java/lang/invoke/MethodHandle" ∧ yX9_of.cls ≠ "java/lang/invoke/VarHandle" ∧ (parseMethodDescriptor yX9_of.desc).map (fun d => d.parameters.length) = some 2 := by decide +kernel
set_option maxHeartbeats 4000000 in
set_option maxRecDepth 100000 in
theorem law_case17 {p : Program} {l : Launch} {e : Env} {s : State} {m : MethodId} {below : List Frame} {meth : Method} {c : Code} {G : va_G} {cI cJ cZ cB cT : ClassId} {b L : Nat} {xs : Nat → Int32} {A : Nat → Prop} {Inv : HS → HS → Prop} (hL : L ≤ 3072) (C0 : lw_At p s m meth c b L xs) (hAs : ∀ q, A q → s.heap.size ≤ q) (hA : ∀ q, s.heap.size ≤ q → A q) (hK : va_K G vwCl (gT cI cJ cZ cB cT) s) (hE : gEX G A s) {q r : Nat → Nat} {m0 : Nat} (hst : LawStep (fun k => k = 8) Inv) {i : Nat} (hi : i + 6 ≤ L) (hback : ∀ (h g : HS), Inv h g → ∀ (H : Heap) (locs : List Loc) (ls : Array Slot), va_P G vwCl (wC q cI cJ cZ cB cT h) H → va_D A (wC q cI cJ cZ cB cT h) → va_P G vwCl (wM m0 r cI cJ cZ cB cT g) H → va_D A (wM m0 r cI cJ cZ cB cT g) → gApart (wC q cI cJ cZ cB cT h) (wM m0 r cI cJ cZ cB cT g) → va_S A s.heap H locs → lv_has ls 4 [(0, .ref b), (1, .ref (q 0)), (2, .ref m0), (3, .int (nI i))] → W p l e room_1 s m #[Value.ref b] below meth c H locs 600000 7302249 (lw_Z below #[Value.ref b] s) (F0 m 1013 ls [])) {h g : HS} (hI : Inv h g) {H : Heap} {locs : List Loc} {ls : Array Slot} (hP : va_P G vwCl (wC q cI cJ cZ cB cT h) H) (hD : va_D A (wC q cI cJ cZ cB cT h)) (hPm : va_P G vwCl (wM m0 r cI cJ cZ cB cT g) H) (hDm : va_D A (wM m0 r cI cJ cZ cB cT g)) (hab : gApart (wC q cI cJ cZ cB cT h) (wM m0 r cI cJ cZ cB cT g)) (hS : va_S A s.heap H locs) (hl : lv_has ls 4 [(0, .ref b), (1, .ref (q 0)), (2, .ref m0), (3, .int (nI i))]) : W p l e room_1 s m #[Value.ref b] below meth c H locs 600000 7302249 (lw_Z below #[Value.ref b] s) (F0 m 645 ls []) := by
  obtain ⟨hx, hb, hr, hml, hown, hts, hX, hbl, hlocks, hgv⟩ := id C0
  have hts : ∀ w ∈ lwc, w.before #[Value.ref b] s = true := fun w h => hts w (lwc_in h)
  have hown : s.vm.findClass RL = some m.cls := hown
  have hbA : ¬ A b := fun h => Nat.lt_irrefl _ (Nat.lt_of_lt_of_le hbl (hAs b h))
  refine lv_aload_n hx hb dL_law_645 rfl (lv_at hl 1 rfl) ?_
  refine lv_aload_n hx hb dL_law_646 rfl (lv_at hl 0 rfl) ?_
  refine lv_iload_n hx hb dL_law_647 rfl (lv_at hl 3 rfl) ?_
  refine lv_iconst (v := 1) hx hb dL_law_648 (by decide) ?_
  refine lv_iadd hx hb dL_law_649 ?_
  refine gw_topi (y := (nI (i + 1))) (nI_add i 1) ?_
  refine gw_sld hx hb hX hbl hbA hS (i + 1) rfl (by omega) (by omega) dL_law_650 ?_
  refine lv_aload_n hx hb dL_law_651 rfl (lv_at hl 0 rfl) ?_
  refine lv_iload_n hx hb dL_law_652 rfl (lv_at hl 3 rfl) ?_
  refine lv_iconst (v := 2) hx hb dL_law_653 (by decide) ?_
  refine lv_iadd hx hb dL_law_654 ?_
  refine gw_topi (y := (nI (i + 2))) (nI_add i 2) ?_
  refine gw_sld hx hb hX hbl hbA hS (i + 2) rfl (by omega) (by omega) dL_law_655 ?_
  obtain ⟨r1, h1, r2, g1, e1, e2, hI1, hq⟩ := hst.2.2.2.2.2.2.2.2.2.2.2.2.2.2.2.2.2.1 h g (xs (i + 1)) (xs (i + 2)) hI
  refine gx2_calli (gx_runV (As := [.int (xs (i + 1)), .int (xs (i + 2))]) (rest := []) ⟨hx, hb, hml, hown, hts⟩ (c_X8_of l G cI cJ cZ cB cT q h (xs (i + 1)) (xs (i + 2)) r1 h1 e1 H.size) (gG_V m_1061 m_1062 m_1063 m_60 m_1064) rfl e_X8_of ⟨(Nat.le_of_ble_eq_true rfl), (Nat.le_of_ble_eq_true rfl)⟩ hK hP hD hE hS hA 0 wC_at0 rfl rfl hl.1 rfl (Nat.le_of_ble_eq_true rfl) dL_law_656 ⟨(Nat.le_of_ble_eq_true rfl), (Nat.le_of_ble_eq_true rfl)⟩) hP hD hPm hab hS hA (fun x_1 u_1 H locs hw_1 hP hD hPm hab hS => ?_)
  subst x_1
  refine lv_pop hx hb dL_law_659 rfl ?_
  refine lv_aload_n hx hb dL_law_660 rfl (lv_at hl 2 rfl) ?_
  refine lv_aload_n hx hb dL_law_661 rfl (lv_at hl 0 rfl) ?_
  refine lv_iload_n hx hb dL_law_662 rfl (lv_at hl 3 rfl) ?_
  refine lv_iconst (v := 1) hx hb dL_law_663 (by decide) ?_
  refine lv_iadd hx hb dL_law_664 ?_
  refine gw_topi (y := (nI (i + 1))) (nI_add i 1) ?_
  refine gw_sld hx hb hX hbl hbA hS (i + 1) rfl (by omega) (by omega) dL_law_665 ?_
  refine lv_aload_n hx hb dL_law_666 rfl (lv_at hl 0 rfl) ?_
  refine lv_iload_n hx hb dL_law_667 rfl (lv_at hl 3 rfl) ?_
  refine lv_iconst (v := 2) hx hb dL_law_668 (by decide) ?_
  refine lv_iadd hx hb dL_law_669 ?_
  refine gw_topi (y := (nI (i + 2))) (nI_add i 2) ?_
  refine gw_sld hx hb hX hbl hbA hS (i + 2) rfl (by omega) (by omega) dL_law_670 ?_
  refine gx2_calli (gx_runV (As := [.int (xs (i + 1)), .int (xs (i + 2))]) (rest := []) ⟨hx, hb, hml, hown, hts⟩ (c_X9_of l G cI cJ cZ cB cT m0 r g (xs (i + 1)) (xs (i + 2)) r2 g1 e2 H.size) (gG_V m_1065 m_1066 m_1067 m_64 m_1068) rfl e_X9_of ⟨(Nat.le_of_ble_eq_true rfl), (Nat.le_of_ble_eq_true rfl)⟩ hK hPm hDm hE hS hA 0 wM_at0 rfl rfl hl.1 rfl (Nat.le_of_ble_eq_true rfl) dL_law_671 ⟨(Nat.le_of_ble_eq_true rfl), (Nat.le_of_ble_eq_true rfl)⟩) hPm hDm hP hab.swap hS hA (fun x_2 u_2 H locs hw_2 hPm hDm hP hba hS => ?_)
  have hab := hba.swap
  subst x_2
  refine lv_pop hx hb dL_law_674 rfl ?_
  refine lv_goto (tgt := 1013) hx hb dL_law_675 (by decide) ?_
  exact hback h1 g1 hI1 H _ ls hP hD hPm hDm hab hS (lv_sub hl [0, 1, 2, 3] rfl)
theorem e_X8_ink : yX8_ink.cls = RX8 ∧ yX8_ink.cls ≠ "java/lang/invoke/MethodHandle" ∧ yX8_ink.cls ≠ "java/lang/invoke/VarHandle" ∧ (parseMethodDescriptor yX8_ink.desc).map (fun d => d.parameters.length) = some 3 := by decide +kernel
theorem e_X9_ink : yX9_ink.cls = RX9 ∧ yX9_ink.cls ≠ "java/lang/invoke/MethodHandle" ∧ yX9_ink.cls ≠ "java/lang/invoke/VarHandle" ∧ (parseMethodDescriptor yX9_ink.desc).map (fun d => d.parameters.length) = some 3 := by decide +kernel
set_option maxHeartbeats 4000000 in
set_option maxRecDepth 100000 in
theorem law_case18 {p : Program} {l : Launch} {e : Env} {s : State} {m : MethodId} {below : List Frame} {meth : Method} {c : Code} {G : va_G} {cI cJ cZ cB cT : ClassId} {b L : Nat} {xs : Nat → Int32} {A : Nat → Prop} {Inv : HS → HS → Prop} (hL : L ≤ 3072) (C0 : lw_At p s m meth c b L xs) (hAs : ∀ q, A q → s.heap.size ≤ q) (hA : ∀ q, s.heap.size ≤ q → A q) (hK : va_K G vwCl (gT cI cJ cZ cB cT) s) (hE : gEX G A s) {q r : Nat → Nat} {m0 : Nat} (hst : LawStep (fun k => k = 8) Inv) {i : Nat} (hi : i + 6 ≤ L) (hback : ∀ (h g : HS), Inv h g → ∀ (H : Heap) (locs : List Loc) (ls : Array Slot), va_P G vwCl (wC q cI cJ cZ cB cT h) H → va_D A (wC q cI cJ cZ cB cT h) → va_P G vwCl (wM m0 r cI cJ cZ cB cT g) H → va_D A (wM m0 r cI cJ cZ cB cT g) → gApart (wC q cI cJ cZ cB cT h) (wM m0 r cI cJ cZ cB cT g) → va_S A s.heap H locs → lv_has ls 4 [(0, .ref b), (1, .ref (q 0)), (2, .ref m0), (3, .int (nI i))] → W p l e room_1 s m #[Value.ref b] below meth c H locs 600000 7302249 (lw_Z below #[Value.ref b] s) (F0 m 1013 ls [])) {h g : HS} (hI : Inv h g) {H : Heap} {locs : List Loc} {ls : Array Slot} (hP : va_P G vwCl (wC q cI cJ cZ cB cT h) H) (hD : va_D A (wC q cI cJ cZ cB cT h)) (hPm : va_P G vwCl (wM m0 r cI cJ cZ cB cT g) H) (hDm : va_D A (wM m0 r cI cJ cZ cB cT g)) (hab : gApart (wC q cI cJ cZ cB cT h) (wM m0 r cI cJ cZ cB cT g)) (hS : va_S A s.heap H locs) (hl : lv_has ls 4 [(0, .ref b), (1, .ref (q 0)), (2, .ref m0), (3, .int (nI i))]) : W p l e room_1 s m #[Value.ref b] below meth c H locs 600000 7302249 (lw_Z below #[Value.ref b] s) (F0 m 678 ls []) := by
  obtain ⟨hx, hb, hr, hml, hown, hts, hX, hbl, hlocks, hgv⟩ := id C0
  have hts : ∀ w ∈ lwc, w.before #[Value.ref b] s = true := fun w h => hts w (lwc_in h)
  have hown : s.vm.findClass RL = some m.cls := hown
  have hbA : ¬ A b := fun h => Nat.lt_irrefl _ (Nat.lt_of_lt_of_le hbl (hAs b h))
  refine lv_aload_n hx hb dL_law_678 rfl (lv_at hl 1 rfl) ?_
  refine lv_aload_n hx hb dL_law_679 rfl (lv_at hl 0 rfl) ?_
  refine lv_iload_n hx hb dL_law_680 rfl (lv_at hl 3 rfl) ?_
  refine lv_iconst (v := 1) hx hb dL_law_681 (by decide) ?_
  refine lv_iadd hx hb dL_law_682 ?_
  refine gw_topi (y := (nI (i + 1))) (nI_add i 1) ?_
  refine gw_sld hx hb hX hbl hbA hS (i + 1) rfl (by omega) (by omega) dL_law_683 ?_
  refine lv_aload_n hx hb dL_law_684 rfl (lv_at hl 0 rfl) ?_
  refine lv_iload_n hx hb dL_law_685 rfl (lv_at hl 3 rfl) ?_
  refine lv_iconst (v := 2) hx hb dL_law_686 (by decide) ?_
  refine lv_iadd hx hb dL_law_687 ?_
  refine gw_topi (y := (nI (i + 2))) (nI_add i 2) ?_
  refine gw_sld hx hb hX hbl hbA hS (i + 2) rfl (by omega) (by omega) dL_law_688 ?_
  refine lv_aload_n hx hb dL_law_689 rfl (lv_at hl 0 rfl) ?_
  refine lv_iload_n hx hb dL_law_690 rfl (lv_at hl 3 rfl) ?_
  refine lv_iconst (v := 3) hx hb dL_law_691 (by decide) ?_
  refine lv_iadd hx hb dL_law_692 ?_
  refine gw_topi (y := (nI (i + 3))) (nI_add i 3) ?_
  refine gw_sld hx hb hX hbl hbA hS (i + 3) rfl (by omega) (by omega) dL_law_693 ?_
  obtain ⟨r1, h1, r2, g1, e1, e2, hI1, hq⟩ := hst.2.2.2.2.2.2.2.2.2.2.2.2.2.2.2.2.2.2.1 h g (xs (i + 1)) (xs (i + 2)) (xs (i + 3)) hI
  refine gx2_calli (gx_runV (As := [.int (xs (i + 1)), .int (xs (i + 2)), .int (xs (i + 3))]) (rest := []) ⟨hx, hb, hml, hown, hts⟩ (c_X8_ink l G cI cJ cZ cB cT q h (xs (i + 1)) (xs (i + 2)) (xs (i + 3)) r1 h1 e1 H.size) (gG_V m_1069 m_1070 m_1071 m_60 m_1072) rfl e_X8_ink ⟨(Nat.le_of_ble_eq_true rfl), (Nat.le_of_ble_eq_true rfl)⟩ hK hP hD hE hS hA 0 wC_at0 rfl rfl hl.1 rfl (Nat.le_of_ble_eq_true rfl) dL_law_694 ⟨(Nat.le_of_ble_eq_true rfl), (Nat.le_of_ble_eq_true rfl)⟩) hP hD hPm hab hS hA (fun x_1 u_1 H locs hw_1 hP hD hPm hab hS => ?_)
  subst x_1
  refine lv_pop hx hb dL_law_697 rfl ?_
  refine lv_aload_n hx hb dL_law_698 rfl (lv_at hl 2 rfl) ?_
  refine lv_aload_n hx hb dL_law_699 rfl (lv_at hl 0 rfl) ?_
  refine lv_iload_n hx hb dL_law_700 rfl (lv_at hl 3 rfl) ?_
  refine lv_iconst (v := 1) hx hb dL_law_701 (by decide) ?_
  refine lv_iadd hx hb dL_law_702 ?_
  refine gw_topi (y := (nI (i + 1))) (nI_add i 1) ?_
  refine gw_sld hx hb hX hbl hbA hS (i + 1) rfl (by omega) (by omega) dL_law_703 ?_
  refine lv_aload_n hx hb dL_law_704 rfl (lv_at hl 0 rfl) ?_
  refine lv_iload_n hx hb dL_law_705 rfl (lv_at hl 3 rfl) ?_
  refine lv_iconst (v := 2) hx hb dL_law_706 (by decide) ?_
  refine lv_iadd hx hb dL_law_707 ?_
  refine gw_topi (y := (nI (i + 2))) (nI_add i 2) ?_
  refine gw_sld hx hb hX hbl hbA hS (i + 2) rfl (by omega) (by omega) dL_law_708 ?_
  refine lv_aload_n hx hb dL_law_709 rfl (lv_at hl 0 rfl) ?_
  refine lv_iload_n hx hb dL_law_710 rfl (lv_at hl 3 rfl) ?_
  refine lv_iconst (v := 3) hx hb dL_law_711 (by decide) ?_
  refine lv_iadd hx hb dL_law_712 ?_
  refine gw_topi (y := (nI (i + 3))) (nI_add i 3) ?_
  refine gw_sld hx hb hX hbl hbA hS (i + 3) rfl (by omega) (by omega) dL_law_713 ?_
  refine gx2_calli (gx_runV (As := [.int (xs (i + 1)), .int (xs (i + 2)), .int (xs (i + 3))]) (rest := []) ⟨hx, hb, hml, hown, hts⟩ (c_X9_ink l G cI cJ cZ cB cT m0 r g (xs (i + 1)) (xs (i + 2)) (xs (i + 3)) r2 g1 e2 H.size) (gG_V m_1073 m_1074 m_1075 m_64 m_1076) rfl e_X9_ink ⟨(Nat.le_of_ble_eq_true rfl), (Nat.le_of_ble_eq_true rfl)⟩ hK hPm hDm hE hS hA 0 wM_at0 rfl rfl hl.1 rfl (Nat.le_of_ble_eq_true rfl) dL_law_714 ⟨(Nat.le_of_ble_eq_true rfl), (Nat.le_of_ble_eq_true rfl)⟩) hPm hDm hP hab.swap hS hA (fun x_2 u_2 H locs hw_2 hPm hDm hP hba hS => ?_)
  have hab := hba.swap
  subst x_2
  refine lv_pop hx hb dL_law_717 rfl ?_
  refine lv_goto (tgt := 1013) hx hb dL_law_718 (by decide) ?_
  exact hback h1 g1 hI1 H _ ls hP hD hPm hDm hab hS (lv_sub hl [0, 1, 2, 3] rfl)
theorem e_X8_known : yX8_known.cls = RX8 ∧ yX8_known.cls ≠ "java/lang/invoke/MethodHandle" ∧ yX8_known.cls ≠ "java/lang/invoke/VarHandle" ∧ (parseMethodDescriptor yX8_known.desc).map (fun d => d.parameters.length) = some 2 := by decide +kernel
theorem e_X9_known : yX9_known.cls = RX9 ∧ yX9_known.cls ≠ "java/lang/invoke/MethodHandle" ∧ yX9_known.cls ≠ "java/lang/invoke/VarHandle" ∧ (parseMethodDescriptor yX9_known.desc).map (fun d => d.parameters.length) = some 2 := by decide +kernel
set_option maxHeartbeats 4000000 in
set_option maxRecDepth 100000 in
theorem law_case19 {p : Program} {l : Launch} {e : Env} {s : State} {m : MethodId} {below : List Frame} {meth : Method} {c : Code} {G : va_G} {cI cJ cZ cB cT : ClassId} {b L : Nat} {xs : Nat → Int32} {A : Nat → Prop} {Inv : HS → HS → Prop} (hL : L ≤ 3072) (C0 : lw_At p s m meth c b L xs) (hAs : ∀ q, A q → s.heap.size ≤ q) (hA : ∀ q, s.heap.size ≤ q → A q) (hK : va_K G vwCl (gT cI cJ cZ cB cT) s) (hE : gEX G A s) {q r : Nat → Nat} {m0 : Nat} (hst : LawStep (fun k => k = 8) Inv) {i : Nat} (hi : i + 6 ≤ L) (hback : ∀ (h g : HS), Inv h g → ∀ (H : Heap) (locs : List Loc) (ls : Array Slot), va_P G vwCl (wC q cI cJ cZ cB cT h) H → va_D A (wC q cI cJ cZ cB cT h) → va_P G vwCl (wM m0 r cI cJ cZ cB cT g) H → va_D A (wM m0 r cI cJ cZ cB cT g) → gApart (wC q cI cJ cZ cB cT h) (wM m0 r cI cJ cZ cB cT g) → va_S A s.heap H locs → lv_has ls 4 [(0, .ref b), (1, .ref (q 0)), (2, .ref m0), (3, .int (nI i))] → W p l e room_1 s m #[Value.ref b] below meth c H locs 600000 7302249 (lw_Z below #[Value.ref b] s) (F0 m 1013 ls [])) {h g : HS} (hI : Inv h g) {H : Heap} {locs : List Loc} {ls : Array Slot} (hP : va_P G vwCl (wC q cI cJ cZ cB cT h) H) (hD : va_D A (wC q cI cJ cZ cB cT h)) (hPm : va_P G vwCl (wM m0 r cI cJ cZ cB cT g) H) (hDm : va_D A (wM m0 r cI cJ cZ cB cT g)) (hab : gApart (wC q cI cJ cZ cB cT h) (wM m0 r cI cJ cZ cB cT g)) (hS : va_S A s.heap H locs) (hl : lv_has ls 4 [(0, .ref b), (1, .ref (q 0)), (2, .ref m0), (3, .int (nI i))]) : W p l e room_1 s m #[Value.ref b] below meth c H locs 600000 7302249 (lw_Z below #[Value.ref b] s) (F0 m 721 ls []) := by
  obtain ⟨hx, hb, hr, hml, hown, hts, hX, hbl, hlocks, hgv⟩ := id C0
  have hts : ∀ w ∈ lwc, w.before #[Value.ref b] s = true := fun w h => hts w (lwc_in h)
  have hown : s.vm.findClass RL = some m.cls := hown
  have hbA : ¬ A b := fun h => Nat.lt_irrefl _ (Nat.lt_of_lt_of_le hbl (hAs b h))
  refine lv_aload_n hx hb dL_law_721 rfl (lv_at hl 1 rfl) ?_
  refine lv_aload_n hx hb dL_law_722 rfl (lv_at hl 0 rfl) ?_
  refine lv_iload_n hx hb dL_law_723 rfl (lv_at hl 3 rfl) ?_
  refine lv_iconst (v := 1) hx hb dL_law_724 (by decide) ?_
  refine lv_iadd hx hb dL_law_725 ?_
  refine gw_topi (y := (nI (i + 1))) (nI_add i 1) ?_
  refine gw_sld hx hb hX hbl hbA hS (i + 1) rfl (by omega) (by omega) dL_law_726 ?_
  refine lv_aload_n hx hb dL_law_727 rfl (lv_at hl 0 rfl) ?_
  refine lv_iload_n hx hb dL_law_728 rfl (lv_at hl 3 rfl) ?_
  refine lv_iconst (v := 2) hx hb dL_law_729 (by decide) ?_
  refine lv_iadd hx hb dL_law_730 ?_
  refine gw_topi (y := (nI (i + 2))) (nI_add i 2) ?_
  refine gw_sld hx hb hX hbl hbA hS (i + 2) rfl (by omega) (by omega) dL_law_731 ?_
  obtain ⟨r1, h1, r2, g1, e1, e2, hI1, hq⟩ := hst.2.2.2.2.2.2.2.2.2.2.2.2.2.2.2.2.2.2.2.1 h g (xs (i + 1)) (xs (i + 2)) hI
  refine gx2_calli (gx_runV (As := [.int (xs (i + 1)), .int (xs (i + 2))]) (rest := []) ⟨hx, hb, hml, hown, hts⟩ (c_X8_known l G cI cJ cZ cB cT q h (xs (i + 1)) (xs (i + 2)) r1 h1 e1 H.size) (gG_V m_1077 m_1078 m_1079 m_60 m_1080) rfl e_X8_known ⟨(Nat.le_of_ble_eq_true rfl), (Nat.le_of_ble_eq_true rfl)⟩ hK hP hD hE hS hA 0 wC_at0 rfl rfl hl.1 rfl (Nat.le_of_ble_eq_true rfl) dL_law_732 ⟨(Nat.le_of_ble_eq_true rfl), (Nat.le_of_ble_eq_true rfl)⟩) hP hD hPm hab hS hA (fun x_1 u_1 H locs hw_1 hP hD hPm hab hS => ?_)
  subst x_1
  refine lv_pop hx hb dL_law_735 rfl ?_
  refine lv_aload_n hx hb dL_law_736 rfl (lv_at hl 2 rfl) ?_
  refine lv_aload_n hx hb dL_law_737 rfl (lv_at hl 0 rfl) ?_
  refine lv_iload_n hx hb dL_law_738 rfl (lv_at hl 3 rfl) ?_
  refine lv_iconst (v := 1) hx hb dL_law_739 (by decide) ?_
  refine lv_iadd hx hb dL_law_740 ?_
  refine gw_topi (y := (nI (i + 1))) (nI_add i 1) ?_
  refine gw_sld hx hb hX hbl hbA hS (i + 1) rfl (by omega) (by omega) dL_law_741 ?_
  refine lv_aload_n hx hb dL_law_742 rfl (lv_at hl 0 rfl) ?_
  refine lv_iload_n hx hb dL_law_743 rfl (lv_at hl 3 rfl) ?_
  refine lv_iconst (v := 2) hx hb dL_law_744 (by decide) ?_
  refine lv_iadd hx hb dL_law_745 ?_
  refine gw_topi (y := (nI (i + 2))) (nI_add i 2) ?_
  refine gw_sld hx hb hX hbl hbA hS (i + 2) rfl (by omega) (by omega) dL_law_746 ?_
  refine gx2_calli (gx_runV (As := [.int (xs (i + 1)), .int (xs (i + 2))]) (rest := []) ⟨hx, hb, hml, hown, hts⟩ (c_X9_known l G cI cJ cZ cB cT m0 r g (xs (i + 1)) (xs (i + 2)) r2 g1 e2 H.size) (gG_V m_1081 m_1082 m_1083 m_64 m_1084) rfl e_X9_known ⟨(Nat.le_of_ble_eq_true rfl), (Nat.le_of_ble_eq_true rfl)⟩ hK hPm hDm hE hS hA 0 wM_at0 rfl rfl hl.1 rfl (Nat.le_of_ble_eq_true rfl) dL_law_747 ⟨(Nat.le_of_ble_eq_true rfl), (Nat.le_of_ble_eq_true rfl)⟩) hPm hDm hP hab.swap hS hA (fun x_2 u_2 H locs hw_2 hPm hDm hP hba hS => ?_)
  have hab := hba.swap
  subst x_2
  refine lv_pop hx hb dL_law_750 rfl ?_
  refine lv_goto (tgt := 1013) hx hb dL_law_751 (by decide) ?_
  exact hback h1 g1 hI1 H _ ls hP hD hPm hDm hab hS (lv_sub hl [0, 1, 2, 3] rfl)
set_option maxHeartbeats 4000000 in
set_option maxRecDepth 100000 in
theorem law_case20 {p : Program} {l : Launch} {e : Env} {s : State} {m : MethodId} {below : List Frame} {meth : Method} {c : Code} {G : va_G} {cI cJ cZ cB cT : ClassId} {b L : Nat} {xs : Nat → Int32} {A : Nat → Prop} {Inv : HS → HS → Prop} (hL : L ≤ 3072) (C0 : lw_At p s m meth c b L xs) (hAs : ∀ q, A q → s.heap.size ≤ q) (hA : ∀ q, s.heap.size ≤ q → A q) (hK : va_K G vwCl (gT cI cJ cZ cB cT) s) (hE : gEX G A s) {q r : Nat → Nat} {m0 : Nat} (hst : LawStep (fun k => k = 8) Inv) {i : Nat} (hi : i + 6 ≤ L) (hback : ∀ (h g : HS), Inv h g → ∀ (H : Heap) (locs : List Loc) (ls : Array Slot), va_P G vwCl (wC q cI cJ cZ cB cT h) H → va_D A (wC q cI cJ cZ cB cT h) → va_P G vwCl (wM m0 r cI cJ cZ cB cT g) H → va_D A (wM m0 r cI cJ cZ cB cT g) → gApart (wC q cI cJ cZ cB cT h) (wM m0 r cI cJ cZ cB cT g) → va_S A s.heap H locs → lv_has ls 4 [(0, .ref b), (1, .ref (q 0)), (2, .ref m0), (3, .int (nI i))] → W p l e room_1 s m #[Value.ref b] below meth c H locs 600000 7302249 (lw_Z below #[Value.ref b] s) (F0 m 1013 ls [])) {h g : HS} (hI : Inv h g) {H : Heap} {locs : List Loc} {ls : Array Slot} (hP : va_P G vwCl (wC q cI cJ cZ cB cT h) H) (hD : va_D A (wC q cI cJ cZ cB cT h)) (hPm : va_P G vwCl (wM m0 r cI cJ cZ cB cT g) H) (hDm : va_D A (wM m0 r cI cJ cZ cB cT g)) (hab : gApart (wC q cI cJ cZ cB cT h) (wM m0 r cI cJ cZ cB cT g)) (hS : va_S A s.heap H locs) (hl : lv_has ls 4 [(0, .ref b), (1, .ref (q 0)), (2, .ref m0), (3, .int (nI i))]) : W p l e room_1 s m #[Value.ref b] below meth c H locs 600000 7302249 (lw_Z below #[Value.ref b] s) (F0 m 754 ls []) := by
  obtain ⟨hx, hb, hr, hml, hown, hts, hX, hbl, hlocks, hgv⟩ := id C0
  have hts : ∀ w ∈ lwc, w.before #[Value.ref b] s = true := fun w h => hts w (lwc_in h)
  have hown : s.vm.findClass RL = some m.cls := hown
  have hbA : ¬ A b := fun h => Nat.lt_irrefl _ (Nat.lt_of_lt_of_le hbl (hAs b h))
  refine lv_aload_n hx hb dL_law_754 rfl (lv_at hl 1 rfl) ?_
  refine lv_aload_n hx hb dL_law_755 rfl (lv_at hl 0 rfl) ?_
  refine lv_iload_n hx hb dL_law_756 rfl (lv_at hl 3 rfl) ?_
  refine lv_iconst (v := 1) hx hb dL_law_757 (by decide) ?_
  refine lv_iadd hx hb dL_law_758 ?_
  refine gw_topi (y := (nI (i + 1))) (nI_add i 1) ?_
  refine gw_sld hx hb hX hbl hbA hS (i + 1) rfl (by omega) (by omega) dL_law_759 ?_
  refine lv_aload_n hx hb dL_law_760 rfl (lv_at hl 0 rfl) ?_
  refine lv_iload_n hx hb dL_law_761 rfl (lv_at hl 3 rfl) ?_
  refine lv_iconst (v := 2) hx hb dL_law_762 (by decide) ?_
  refine lv_iadd hx hb dL_law_763 ?_
  refine gw_topi (y := (nI (i + 2))) (nI_add i 2) ?_
  refine gw_sld hx hb hX hbl hbA hS (i + 2) rfl (by omega) (by omega) dL_law_764 ?_
  refine lv_if_eq (tgt := 772) hx hb dL_law_765 (by decide) (fun c_1 => ?_) (fun c_1 => ?_)
  · refine lv_iconst (v := 0) hx hb dL_law_772 (by decide) ?_
    obtain ⟨r1, h1, r2, g1, e1, e2, hI1, hq⟩ := hst.2.2.2.2.2.2.2.2.2.2.2.2.2.2.2.2.2.2.2.2.1 h g (xs (i + 1)) 0 hI
    refine gx2_calli (gx_runV (As := [.int (xs (i + 1)), .int 0]) (rest := []) ⟨hx, hb, hml, hown, hts⟩ (c_X8_led l G cI cJ cZ cB cT q h (xs (i + 1)) 0 r1 h1 e1 H.size) (gG_V m_1085 m_852 m_853 m_60 m_850) rfl e_X8_led ⟨(Nat.le_of_ble_eq_true rfl), (Nat.le_of_ble_eq_true rfl)⟩ hK hP hD hE hS hA 0 wC_at0 rfl rfl hl.1 rfl (Nat.le_of_ble_eq_true rfl) dL_law_773 ⟨(Nat.le_of_ble_eq_true rfl), (Nat.le_of_ble_eq_true rfl)⟩) hP hD hPm hab hS hA (fun x_2 u_2 H locs hw_2 hP hD hPm hab hS => ?_)
    subst x_2
    refine lv_pop hx hb dL_law_776 rfl ?_
    refine lv_aload_n hx hb dL_law_777 rfl (lv_at hl 2 rfl) ?_
    refine lv_aload_n hx hb dL_law_778 rfl (lv_at hl 0 rfl) ?_
    refine lv_iload_n hx hb dL_law_779 rfl (lv_at hl 3 rfl) ?_
    refine lv_iconst (v := 1) hx hb dL_law_780 (by decide) ?_
    refine lv_iadd hx hb dL_law_781 ?_
    refine gw_topi (y := (nI (i + 1))) (nI_add i 1) ?_
    refine gw_sld hx hb hX hbl hbA hS (i + 1) rfl (by omega) (by omega) dL_law_782 ?_
    refine lv_aload_n hx hb dL_law_783 rfl (lv_at hl 0 rfl) ?_
    refine lv_iload_n hx hb dL_law_784 rfl (lv_at hl 3 rfl) ?_
    refine lv_iconst (v := 2) hx hb dL_law_785 (by decide) ?_
    refine lv_iadd hx hb dL_law_786 ?_
    refine gw_topi (y := (nI (i + 2))) (nI_add i 2) ?_
    refine gw_sld hx hb hX hbl hbA hS (i + 2) rfl (by omega) (by omega) dL_law_787 ?_
    refine lv_if_eq (tgt := 795) hx hb dL_law_788 (by decide) (fun _ => ?_) (fun c => absurd c_1 c)
    refine lv_iconst (v := 0) hx hb dL_law_795 (by decide) ?_
    refine gx2_calli (gx_runV (As := [.int (xs (i + 1)), .int 0]) (rest := []) ⟨hx, hb, hml, hown, hts⟩ (c_X9_led l G cI cJ cZ cB cT m0 r g (xs (i + 1)) 0 r2 g1 e2 H.size) (gG_V m_1086 m_356 m_357 m_64 m_354) rfl e_X9_led ⟨(Nat.le_of_ble_eq_true rfl), (Nat.le_of_ble_eq_true rfl)⟩ hK hPm hDm hE hS hA 0 wM_at0 rfl rfl hl.1 rfl (Nat.le_of_ble_eq_true rfl) dL_law_796 ⟨(Nat.le_of_ble_eq_true rfl), (Nat.le_of_ble_eq_true rfl)⟩) hPm hDm hP hab.swap hS hA (fun x_3 u_3 H locs hw_3 hPm hDm hP hba hS => ?_)
    have hab := hba.swap
    subst x_3
    refine lv_pop hx hb dL_law_799 rfl ?_
    refine lv_goto (tgt := 1013) hx hb dL_law_800 (by decide) ?_
    exact hback h1 g1 hI1 H _ ls hP hD hPm hDm hab hS (lv_sub hl [0, 1, 2, 3] rfl)
  · refine lv_iconst (v := 1) hx hb dL_law_768 (by decide) ?_
    refine lv_goto (tgt := 773) hx hb dL_law_769 (by decide) ?_
    obtain ⟨r1, h1, r2, g1, e1, e2, hI1, hq⟩ := hst.2.2.2.2.2.2.2.2.2.2.2.2.2.2.2.2.2.2.2.2.1 h g (xs (i + 1)) 1 hI
    refine gx2_calli (gx_runV (As := [.int (xs (i + 1)), .int 1]) (rest := []) ⟨hx, hb, hml, hown, hts⟩ (c_X8_led l G cI cJ cZ cB cT q h (xs (i + 1)) 1 r1 h1 e1 H.size) (gG_V m_1085 m_852 m_853 m_60 m_850) rfl e_X8_led ⟨(Nat.le_of_ble_eq_true rfl), (Nat.le_of_ble_eq_true rfl)⟩ hK hP hD hE hS hA 0 wC_at0 rfl rfl hl.1 rfl (Nat.le_of_ble_eq_true rfl) dL_law_773 ⟨(Nat.le_of_ble_eq_true rfl), (Nat.le_of_ble_eq_true rfl)⟩) hP hD hPm hab hS hA (fun x_4 u_4 H locs hw_4 hP hD hPm hab hS => ?_)
    subst x_4
    refine lv_pop hx hb dL_law_776 rfl ?_
    refine lv_aload_n hx hb dL_law_777 rfl (lv_at hl 2 rfl) ?_
    refine lv_aload_n hx hb dL_law_778 rfl (lv_at hl 0 rfl) ?_
    refine lv_iload_n hx hb dL_law_779 rfl (lv_at hl 3 rfl) ?_
    refine lv_iconst (v := 1) hx hb dL_law_780 (by decide) ?_
    refine lv_iadd hx hb dL_law_781 ?_
    refine gw_topi (y := (nI (i + 1))) (nI_add i 1) ?_
    refine gw_sld hx hb hX hbl hbA hS (i + 1) rfl (by omega) (by omega) dL_law_782 ?_
    refine lv_aload_n hx hb dL_law_783 rfl (lv_at hl 0 rfl) ?_
    refine lv_iload_n hx hb dL_law_784 rfl (lv_at hl 3 rfl) ?_
    refine lv_iconst (v := 2) hx hb dL_law_785 (by decide) ?_
    refine lv_iadd hx hb dL_law_786 ?_
    refine gw_topi (y := (nI (i + 2))) (nI_add i 2) ?_
    refine gw_sld hx hb hX hbl hbA hS (i + 2) rfl (by omega) (by omega) dL_law_787 ?_
    refine lv_if_eq (tgt := 795) hx hb dL_law_788 (by decide) (fun c => absurd c c_1) (fun _ => ?_)
    refine lv_iconst (v := 1) hx hb dL_law_791 (by decide) ?_
    refine lv_goto (tgt := 796) hx hb dL_law_792 (by decide) ?_
    refine gx2_calli (gx_runV (As := [.int (xs (i + 1)), .int 1]) (rest := []) ⟨hx, hb, hml, hown, hts⟩ (c_X9_led l G cI cJ cZ cB cT m0 r g (xs (i + 1)) 1 r2 g1 e2 H.size) (gG_V m_1086 m_356 m_357 m_64 m_354) rfl e_X9_led ⟨(Nat.le_of_ble_eq_true rfl), (Nat.le_of_ble_eq_true rfl)⟩ hK hPm hDm hE hS hA 0 wM_at0 rfl rfl hl.1 rfl (Nat.le_of_ble_eq_true rfl) dL_law_796 ⟨(Nat.le_of_ble_eq_true rfl), (Nat.le_of_ble_eq_true rfl)⟩) hPm hDm hP hab.swap hS hA (fun x_5 u_5 H locs hw_5 hPm hDm hP hba hS => ?_)
    have hab := hba.swap
    subst x_5
    refine lv_pop hx hb dL_law_799 rfl ?_
    refine lv_goto (tgt := 1013) hx hb dL_law_800 (by decide) ?_
    exact hback h1 g1 hI1 H _ ls hP hD hPm hDm hab hS (lv_sub hl [0, 1, 2, 3] rfl)
theorem e_X8_answer : yX8_answer.cls = RX8 ∧ yX8_answer.cls ≠ "java/lang/invoke/MethodHandle" ∧ yX8_answer.cls ≠ "java/lang/invoke/VarHandle" ∧ (parseMethodDescriptor yX8_answer.desc).map (fun d => d.parameters.length) = some 1 := by decide +kernel
theorem e_X9_answer : yX9_answer.cls = RX9 ∧ yX9_answer.cls ≠ "java/lang/invoke/MethodHandle" ∧ yX9_answer.cls ≠ "java/lang/invoke/VarHandle" ∧ (parseMethodDescriptor yX9_answer.desc).map (fun d => d.parameters.length) = some 1 := by decide +kernel
set_option maxHeartbeats 4000000 in
set_option maxRecDepth 100000 in
theorem law_case21 {p : Program} {l : Launch} {e : Env} {s : State} {m : MethodId} {below : List Frame} {meth : Method} {c : Code} {G : va_G} {cI cJ cZ cB cT : ClassId} {b L : Nat} {xs : Nat → Int32} {A : Nat → Prop} {Inv : HS → HS → Prop} (hL : L ≤ 3072) (C0 : lw_At p s m meth c b L xs) (hAs : ∀ q, A q → s.heap.size ≤ q) (hA : ∀ q, s.heap.size ≤ q → A q) (hK : va_K G vwCl (gT cI cJ cZ cB cT) s) (hE : gEX G A s) {q r : Nat → Nat} {m0 : Nat} (hst : LawStep (fun k => k = 8) Inv) {i : Nat} (hi : i + 6 ≤ L) (hback : ∀ (h g : HS), Inv h g → ∀ (H : Heap) (locs : List Loc) (ls : Array Slot), va_P G vwCl (wC q cI cJ cZ cB cT h) H → va_D A (wC q cI cJ cZ cB cT h) → va_P G vwCl (wM m0 r cI cJ cZ cB cT g) H → va_D A (wM m0 r cI cJ cZ cB cT g) → gApart (wC q cI cJ cZ cB cT h) (wM m0 r cI cJ cZ cB cT g) → va_S A s.heap H locs → lv_has ls 4 [(0, .ref b), (1, .ref (q 0)), (2, .ref m0), (3, .int (nI i))] → W p l e room_1 s m #[Value.ref b] below meth c H locs 600000 7302249 (lw_Z below #[Value.ref b] s) (F0 m 1013 ls [])) {h g : HS} (hI : Inv h g) {H : Heap} {locs : List Loc} {ls : Array Slot} (hP : va_P G vwCl (wC q cI cJ cZ cB cT h) H) (hD : va_D A (wC q cI cJ cZ cB cT h)) (hPm : va_P G vwCl (wM m0 r cI cJ cZ cB cT g) H) (hDm : va_D A (wM m0 r cI cJ cZ cB cT g)) (hab : gApart (wC q cI cJ cZ cB cT h) (wM m0 r cI cJ cZ cB cT g)) (hS : va_S A s.heap H locs) (hl : lv_has ls 4 [(0, .ref b), (1, .ref (q 0)), (2, .ref m0), (3, .int (nI i))]) : W p l e room_1 s m #[Value.ref b] below meth c H locs 600000 7302249 (lw_Z below #[Value.ref b] s) (F0 m 803 ls []) := by
  obtain ⟨hx, hb, hr, hml, hown, hts, hX, hbl, hlocks, hgv⟩ := id C0
  have hts : ∀ w ∈ lwc, w.before #[Value.ref b] s = true := fun w h => hts w (lwc_in h)
  have hown : s.vm.findClass RL = some m.cls := hown
  have hbA : ¬ A b := fun h => Nat.lt_irrefl _ (Nat.lt_of_lt_of_le hbl (hAs b h))
  refine lv_aload_n hx hb dL_law_803 rfl (lv_at hl 1 rfl) ?_
  refine lv_aload_n hx hb dL_law_804 rfl (lv_at hl 0 rfl) ?_
  refine lv_iload_n hx hb dL_law_805 rfl (lv_at hl 3 rfl) ?_
  refine lv_iconst (v := 1) hx hb dL_law_806 (by decide) ?_
  refine lv_iadd hx hb dL_law_807 ?_
  refine gw_topi (y := (nI (i + 1))) (nI_add i 1) ?_
  refine gw_sld hx hb hX hbl hbA hS (i + 1) rfl (by omega) (by omega) dL_law_808 ?_
  obtain ⟨r1, h1, r2, g1, e1, e2, hI1, hq⟩ := hst.2.2.2.2.2.2.2.2.2.2.2.2.2.2.2.2.2.2.2.2.2.1 h g (xs (i + 1)) hI
  refine gx2_calli (gx_runV (As := [.int (xs (i + 1))]) (rest := []) ⟨hx, hb, hml, hown, hts⟩ (c_X8_answer l G cI cJ cZ cB cT q h (xs (i + 1)) r1 h1 e1 H.size) (gG_V m_1087 m_1088 m_1089 m_60 m_1090) rfl e_X8_answer ⟨(Nat.le_of_ble_eq_true rfl), (Nat.le_of_ble_eq_true rfl)⟩ hK hP hD hE hS hA 0 wC_at0 rfl rfl hl.1 rfl (Nat.le_of_ble_eq_true rfl) dL_law_809 ⟨(Nat.le_of_ble_eq_true rfl), (Nat.le_of_ble_eq_true rfl)⟩) hP hD hPm hab hS hA (fun x_1 u_1 H locs hw_1 hP hD hPm hab hS => ?_)
  subst x_1
  refine lv_pop hx hb dL_law_812 rfl ?_
  refine lv_aload_n hx hb dL_law_813 rfl (lv_at hl 2 rfl) ?_
  refine lv_aload_n hx hb dL_law_814 rfl (lv_at hl 0 rfl) ?_
  refine lv_iload_n hx hb dL_law_815 rfl (lv_at hl 3 rfl) ?_
  refine lv_iconst (v := 1) hx hb dL_law_816 (by decide) ?_
  refine lv_iadd hx hb dL_law_817 ?_
  refine gw_topi (y := (nI (i + 1))) (nI_add i 1) ?_
  refine gw_sld hx hb hX hbl hbA hS (i + 1) rfl (by omega) (by omega) dL_law_818 ?_
  refine gx2_calli (gx_runV (As := [.int (xs (i + 1))]) (rest := []) ⟨hx, hb, hml, hown, hts⟩ (c_X9_answer l G cI cJ cZ cB cT m0 r g (xs (i + 1)) r2 g1 e2 H.size) (gG_V m_1091 m_1092 m_1093 m_64 m_1094) rfl e_X9_answer ⟨(Nat.le_of_ble_eq_true rfl), (Nat.le_of_ble_eq_true rfl)⟩ hK hPm hDm hE hS hA 0 wM_at0 rfl rfl hl.1 rfl (Nat.le_of_ble_eq_true rfl) dL_law_819 ⟨(Nat.le_of_ble_eq_true rfl), (Nat.le_of_ble_eq_true rfl)⟩) hPm hDm hP hab.swap hS hA (fun x_2 u_2 H locs hw_2 hPm hDm hP hba hS => ?_)
  have hab := hba.swap
  subst x_2
  refine lv_pop hx hb dL_law_822 rfl ?_
  refine lv_goto (tgt := 1013) hx hb dL_law_823 (by decide) ?_
  exact hback h1 g1 hI1 H _ ls hP hD hPm hDm hab hS (lv_sub hl [0, 1, 2, 3] rfl)
theorem e_X8_plucks : yX8_plucks.cls = RX8 ∧ yX8_plucks.cls ≠ "java/lang/invoke/MethodHandle" ∧ yX8_plucks.cls ≠ "java/lang/invoke/VarHandle" ∧ (parseMethodDescriptor yX8_plucks.desc).map (fun d => d.parameters.length) = some 1 := by decide +kernel
theorem e_X9_plucks : yX9_plucks.cls = RX9 ∧ yX9_plucks.cls ≠ "java/lang/invoke/MethodHandle" ∧ yX9_plucks.cls ≠ "java/lang/invoke/VarHandle" ∧ (parseMethodDescriptor yX9_plucks.desc).map (fun d => d.parameters.length) = some 1 := by decide +kernel
set_option maxHeartbeats 4000000 in
set_option maxRecDepth 100000 in
theorem law_case22 {p : Program} {l : Launch} {e : Env} {s : State} {m : MethodId} {below : List Frame} {meth : Method} {c : Code} {G : va_G} {cI cJ cZ cB cT : ClassId} {b L : Nat} {xs : Nat → Int32} {A : Nat → Prop} {Inv : HS → HS → Prop} (hL : L ≤ 3072) (C0 : lw_At p s m meth c b L xs) (hAs : ∀ q, A q → s.heap.size ≤ q) (hA : ∀ q, s.heap.size ≤ q → A q) (hK : va_K G vwCl (gT cI cJ cZ cB cT) s) (hE : gEX G A s) {q r : Nat → Nat} {m0 : Nat} (hst : LawStep (fun k => k = 8) Inv) {i : Nat} (hi : i + 6 ≤ L) (hback : ∀ (h g : HS), Inv h g → ∀ (H : Heap) (locs : List Loc) (ls : Array Slot), va_P G vwCl (wC q cI cJ cZ cB cT h) H → va_D A (wC q cI cJ cZ cB cT h) → va_P G vwCl (wM m0 r cI cJ cZ cB cT g) H → va_D A (wM m0 r cI cJ cZ cB cT g) → gApart (wC q cI cJ cZ cB cT h) (wM m0 r cI cJ cZ cB cT g) → va_S A s.heap H locs → lv_has ls 4 [(0, .ref b), (1, .ref (q 0)), (2, .ref m0), (3, .int (nI i))] → W p l e room_1 s m #[Value.ref b] below meth c H locs 600000 7302249 (lw_Z below #[Value.ref b] s) (F0 m 1013 ls [])) {h g : HS} (hI : Inv h g) {H : Heap} {locs : List Loc} {ls : Array Slot} (hP : va_P G vwCl (wC q cI cJ cZ cB cT h) H) (hD : va_D A (wC q cI cJ cZ cB cT h)) (hPm : va_P G vwCl (wM m0 r cI cJ cZ cB cT g) H) (hDm : va_D A (wM m0 r cI cJ cZ cB cT g)) (hab : gApart (wC q cI cJ cZ cB cT h) (wM m0 r cI cJ cZ cB cT g)) (hS : va_S A s.heap H locs) (hl : lv_has ls 4 [(0, .ref b), (1, .ref (q 0)), (2, .ref m0), (3, .int (nI i))]) : W p l e room_1 s m #[Value.ref b] below meth c H locs 600000 7302249 (lw_Z below #[Value.ref b] s) (F0 m 826 ls []) := by
  obtain ⟨hx, hb, hr, hml, hown, hts, hX, hbl, hlocks, hgv⟩ := id C0
  have hts : ∀ w ∈ lwc, w.before #[Value.ref b] s = true := fun w h => hts w (lwc_in h)
  have hown : s.vm.findClass RL = some m.cls := hown
  have hbA : ¬ A b := fun h => Nat.lt_irrefl _ (Nat.lt_of_lt_of_le hbl (hAs b h))
  refine lv_aload_n hx hb dL_law_826 rfl (lv_at hl 1 rfl) ?_
  refine lv_aload_n hx hb dL_law_827 rfl (lv_at hl 0 rfl) ?_
  refine lv_iload_n hx hb dL_law_828 rfl (lv_at hl 3 rfl) ?_
  refine lv_iconst (v := 1) hx hb dL_law_829 (by decide) ?_
  refine lv_iadd hx hb dL_law_830 ?_
  refine gw_topi (y := (nI (i + 1))) (nI_add i 1) ?_
  refine gw_sld hx hb hX hbl hbA hS (i + 1) rfl (by omega) (by omega) dL_law_831 ?_
  obtain ⟨r1, h1, r2, g1, e1, e2, hI1, hq⟩ := hst.2.2.2.2.2.2.2.2.2.2.2.2.2.2.2.2.2.2.2.2.2.2.1 h g (xs (i + 1)) hI
  refine gx2_calli (gx_runV (As := [.int (xs (i + 1))]) (rest := []) ⟨hx, hb, hml, hown, hts⟩ (c_X8_plucks l G cI cJ cZ cB cT q h (xs (i + 1)) r1 h1 e1 H.size) (gG_V m_1095 m_1096 m_1097 m_60 m_1098) rfl e_X8_plucks ⟨(Nat.le_of_ble_eq_true rfl), (Nat.le_of_ble_eq_true rfl)⟩ hK hP hD hE hS hA 0 wC_at0 rfl rfl hl.1 rfl (Nat.le_of_ble_eq_true rfl) dL_law_832 ⟨(Nat.le_of_ble_eq_true rfl), (Nat.le_of_ble_eq_true rfl)⟩) hP hD hPm hab hS hA (fun x_1 u_1 H locs hw_1 hP hD hPm hab hS => ?_)
  subst x_1
  refine lv_pop hx hb dL_law_835 rfl ?_
  refine lv_aload_n hx hb dL_law_836 rfl (lv_at hl 2 rfl) ?_
  refine lv_aload_n hx hb dL_law_837 rfl (lv_at hl 0 rfl) ?_
  refine lv_iload_n hx hb dL_law_838 rfl (lv_at hl 3 rfl) ?_
  refine lv_iconst (v := 1) hx hb dL_law_839 (by decide) ?_
  refine lv_iadd hx hb dL_law_840 ?_
  refine gw_topi (y := (nI (i + 1))) (nI_add i 1) ?_
  refine gw_sld hx hb hX hbl hbA hS (i + 1) rfl (by omega) (by omega) dL_law_841 ?_
  refine gx2_calli (gx_runV (As := [.int (xs (i + 1))]) (rest := []) ⟨hx, hb, hml, hown, hts⟩ (c_X9_plucks l G cI cJ cZ cB cT m0 r g (xs (i + 1)) r2 g1 e2 H.size) (gG_V m_1099 m_1100 m_1101 m_64 m_1102) rfl e_X9_plucks ⟨(Nat.le_of_ble_eq_true rfl), (Nat.le_of_ble_eq_true rfl)⟩ hK hPm hDm hE hS hA 0 wM_at0 rfl rfl hl.1 rfl (Nat.le_of_ble_eq_true rfl) dL_law_842 ⟨(Nat.le_of_ble_eq_true rfl), (Nat.le_of_ble_eq_true rfl)⟩) hPm hDm hP hab.swap hS hA (fun x_2 u_2 H locs hw_2 hPm hDm hP hba hS => ?_)
  have hab := hba.swap
  subst x_2
  refine lv_pop hx hb dL_law_845 rfl ?_
  refine lv_goto (tgt := 1013) hx hb dL_law_846 (by decide) ?_
  exact hback h1 g1 hI1 H _ ls hP hD hPm hDm hab hS (lv_sub hl [0, 1, 2, 3] rfl)
theorem e_X8_odds : yX8_odds.cls = RX8 ∧ yX8_odds.cls ≠ "java/lang/invoke/MethodHandle" ∧ yX8_odds.cls ≠ "java/lang/invoke/VarHandle" ∧ (parseMethodDescriptor yX8_odds.desc).map (fun d => d.parameters.length) = some 3 := by decide +kernel
theorem e_X9_odds : yX9_odds.cls = RX9 ∧ yX9_odds.cls ≠ "java/lang/invoke/MethodHandle" ∧ yX9_odds.cls ≠ "java/lang/invoke/VarHandle" ∧ (parseMethodDescriptor yX9_odds.desc).map (fun d => d.parameters.length) = some 3 := by decide +kernel
set_option maxHeartbeats 4000000 in
set_option maxRecDepth 100000 in
theorem law_case23 {p : Program} {l : Launch} {e : Env} {s : State} {m : MethodId} {below : List Frame} {meth : Method} {c : Code} {G : va_G} {cI cJ cZ cB cT : ClassId} {b L : Nat} {xs : Nat → Int32} {A : Nat → Prop} {Inv : HS → HS → Prop} (hL : L ≤ 3072) (C0 : lw_At p s m meth c b L xs) (hAs : ∀ q, A q → s.heap.size ≤ q) (hA : ∀ q, s.heap.size ≤ q → A q) (hK : va_K G vwCl (gT cI cJ cZ cB cT) s) (hE : gEX G A s) {q r : Nat → Nat} {m0 : Nat} (hst : LawStep (fun k => k = 8) Inv) {i : Nat} (hi : i + 6 ≤ L) (hback : ∀ (h g : HS), Inv h g → ∀ (H : Heap) (locs : List Loc) (ls : Array Slot), va_P G vwCl (wC q cI cJ cZ cB cT h) H → va_D A (wC q cI cJ cZ cB cT h) → va_P G vwCl (wM m0 r cI cJ cZ cB cT g) H → va_D A (wM m0 r cI cJ cZ cB cT g) → gApart (wC q cI cJ cZ cB cT h) (wM m0 r cI cJ cZ cB cT g) → va_S A s.heap H locs → lv_has ls 4 [(0, .ref b), (1, .ref (q 0)), (2, .ref m0), (3, .int (nI i))] → W p l e room_1 s m #[Value.ref b] below meth c H locs 600000 7302249 (lw_Z below #[Value.ref b] s) (F0 m 1013 ls [])) {h g : HS} (hI : Inv h g) {H : Heap} {locs : List Loc} {ls : Array Slot} (hP : va_P G vwCl (wC q cI cJ cZ cB cT h) H) (hD : va_D A (wC q cI cJ cZ cB cT h)) (hPm : va_P G vwCl (wM m0 r cI cJ cZ cB cT g) H) (hDm : va_D A (wM m0 r cI cJ cZ cB cT g)) (hab : gApart (wC q cI cJ cZ cB cT h) (wM m0 r cI cJ cZ cB cT g)) (hS : va_S A s.heap H locs) (hl : lv_has ls 4 [(0, .ref b), (1, .ref (q 0)), (2, .ref m0), (3, .int (nI i))]) : W p l e room_1 s m #[Value.ref b] below meth c H locs 600000 7302249 (lw_Z below #[Value.ref b] s) (F0 m 849 ls []) := by
  obtain ⟨hx, hb, hr, hml, hown, hts, hX, hbl, hlocks, hgv⟩ := id C0
  have hts : ∀ w ∈ lwc, w.before #[Value.ref b] s = true := fun w h => hts w (lwc_in h)
  have hown : s.vm.findClass RL = some m.cls := hown
  have hbA : ¬ A b := fun h => Nat.lt_irrefl _ (Nat.lt_of_lt_of_le hbl (hAs b h))
  refine lv_aload_n hx hb dL_law_849 rfl (lv_at hl 1 rfl) ?_
  refine lv_aload_n hx hb dL_law_850 rfl (lv_at hl 0 rfl) ?_
  refine lv_iload_n hx hb dL_law_851 rfl (lv_at hl 3 rfl) ?_
  refine lv_iconst (v := 1) hx hb dL_law_852 (by decide) ?_
  refine lv_iadd hx hb dL_law_853 ?_
  refine gw_topi (y := (nI (i + 1))) (nI_add i 1) ?_
  refine gw_sld hx hb hX hbl hbA hS (i + 1) rfl (by omega) (by omega) dL_law_854 ?_
  refine lv_aload_n hx hb dL_law_855 rfl (lv_at hl 0 rfl) ?_
  refine lv_iload_n hx hb dL_law_856 rfl (lv_at hl 3 rfl) ?_
  refine lv_iconst (v := 2) hx hb dL_law_857 (by decide) ?_
  refine lv_iadd hx hb dL_law_858 ?_
  refine gw_topi (y := (nI (i + 2))) (nI_add i 2) ?_
  refine gw_sld hx hb hX hbl hbA hS (i + 2) rfl (by omega) (by omega) dL_law_859 ?_
  refine lv_aload_n hx hb dL_law_860 rfl (lv_at hl 0 rfl) ?_
  refine lv_iload_n hx hb dL_law_861 rfl (lv_at hl 3 rfl) ?_
  refine lv_iconst (v := 3) hx hb dL_law_862 (by decide) ?_
  refine lv_iadd hx hb dL_law_863 ?_
  refine gw_topi (y := (nI (i + 3))) (nI_add i 3) ?_
  refine gw_sld hx hb hX hbl hbA hS (i + 3) rfl (by omega) (by omega) dL_law_864 ?_
  refine lv_if_eq (tgt := 872) hx hb dL_law_865 (by decide) (fun c_1 => ?_) (fun c_1 => ?_)
  · refine lv_iconst (v := 0) hx hb dL_law_872 (by decide) ?_
    obtain ⟨r1, h1, r2, g1, e1, e2, hI1, hq⟩ := hst.2.2.2.2.2.2.2.2.2.2.2.2.2.2.2.2.2.2.2.2.2.2.2.1 h g (xs (i + 1)) (xs (i + 2)) 0 hI
    refine gx2_calll (gx_runV (As := [.int (xs (i + 1)), .int (xs (i + 2)), .int 0]) (rest := []) ⟨hx, hb, hml, hown, hts⟩ (c_X8_odds l G cI cJ cZ cB cT q h (xs (i + 1)) (xs (i + 2)) 0 r1 h1 e1 H.size) (gG_V m_1103 m_1104 m_1105 m_60 m_1106) rfl e_X8_odds ⟨(Nat.le_of_ble_eq_true rfl), (Nat.le_of_ble_eq_true rfl)⟩ hK hP hD hE hS hA 0 wC_at0 rfl rfl hl.1 rfl (Nat.le_of_ble_eq_true rfl) dL_law_873 ⟨(Nat.le_of_ble_eq_true rfl), (Nat.le_of_ble_eq_true rfl)⟩) hP hD hPm hab hS hA (fun x_2 u_2 H locs hw_2 hP hD hPm hab hS => ?_)
    subst x_2
    refine lv_pop2_2 hx hb dL_law_876 rfl ?_
    refine lv_aload_n hx hb dL_law_877 rfl (lv_at hl 2 rfl) ?_
    refine lv_aload_n hx hb dL_law_878 rfl (lv_at hl 0 rfl) ?_
    refine lv_iload_n hx hb dL_law_879 rfl (lv_at hl 3 rfl) ?_
    refine lv_iconst (v := 1) hx hb dL_law_880 (by decide) ?_
    refine lv_iadd hx hb dL_law_881 ?_
    refine gw_topi (y := (nI (i + 1))) (nI_add i 1) ?_
    refine gw_sld hx hb hX hbl hbA hS (i + 1) rfl (by omega) (by omega) dL_law_882 ?_
    refine lv_aload_n hx hb dL_law_883 rfl (lv_at hl 0 rfl) ?_
    refine lv_iload_n hx hb dL_law_884 rfl (lv_at hl 3 rfl) ?_
    refine lv_iconst (v := 2) hx hb dL_law_885 (by decide) ?_
    refine lv_iadd hx hb dL_law_886 ?_
    refine gw_topi (y := (nI (i + 2))) (nI_add i 2) ?_
    refine gw_sld hx hb hX hbl hbA hS (i + 2) rfl (by omega) (by omega) dL_law_887 ?_
    refine lv_aload_n hx hb dL_law_888 rfl (lv_at hl 0 rfl) ?_
    refine lv_iload_n hx hb dL_law_889 rfl (lv_at hl 3 rfl) ?_
    refine lv_iconst (v := 3) hx hb dL_law_890 (by decide) ?_
    refine lv_iadd hx hb dL_law_891 ?_
    refine gw_topi (y := (nI (i + 3))) (nI_add i 3) ?_
    refine gw_sld hx hb hX hbl hbA hS (i + 3) rfl (by omega) (by omega) dL_law_892 ?_
    refine lv_if_eq (tgt := 900) hx hb dL_law_893 (by decide) (fun _ => ?_) (fun c => absurd c_1 c)
    refine lv_iconst (v := 0) hx hb dL_law_900 (by decide) ?_
    refine gx2_calll (gx_runV (As := [.int (xs (i + 1)), .int (xs (i + 2)), .int 0]) (rest := []) ⟨hx, hb, hml, hown, hts⟩ (c_X9_odds l G cI cJ cZ cB cT m0 r g (xs (i + 1)) (xs (i + 2)) 0 r2 g1 e2 H.size) (gG_V m_1107 m_1108 m_1109 m_64 m_1110) rfl e_X9_odds ⟨(Nat.le_of_ble_eq_true rfl), (Nat.le_of_ble_eq_true rfl)⟩ hK hPm hDm hE hS hA 0 wM_at0 rfl rfl hl.1 rfl (Nat.le_of_ble_eq_true rfl) dL_law_901 ⟨(Nat.le_of_ble_eq_true rfl), (Nat.le_of_ble_eq_true rfl)⟩) hPm hDm hP hab.swap hS hA (fun x_3 u_3 H locs hw_3 hPm hDm hP hba hS => ?_)
    have hab := hba.swap
    subst x_3
    refine lv_pop2_2 hx hb dL_law_904 rfl ?_
    refine lv_goto (tgt := 1013) hx hb dL_law_905 (by decide) ?_
    exact hback h1 g1 hI1 H _ ls hP hD hPm hDm hab hS (lv_sub hl [0, 1, 2, 3] rfl)
  · refine lv_iconst (v := 1) hx hb dL_law_868 (by decide) ?_
    refine lv_goto (tgt := 873) hx hb dL_law_869 (by decide) ?_
    obtain ⟨r1, h1, r2, g1, e1, e2, hI1, hq⟩ := hst.2.2.2.2.2.2.2.2.2.2.2.2.2.2.2.2.2.2.2.2.2.2.2.1 h g (xs (i + 1)) (xs (i + 2)) 1 hI
    refine gx2_calll (gx_runV (As := [.int (xs (i + 1)), .int (xs (i + 2)), .int 1]) (rest := []) ⟨hx, hb, hml, hown, hts⟩ (c_X8_odds l G cI cJ cZ cB cT q h (xs (i + 1)) (xs (i + 2)) 1 r1 h1 e1 H.size) (gG_V m_1103 m_1104 m_1105 m_60 m_1106) rfl e_X8_odds ⟨(Nat.le_of_ble_eq_true rfl), (Nat.le_of_ble_eq_true rfl)⟩ hK hP hD hE hS hA 0 wC_at0 rfl rfl hl.1 rfl (Nat.le_of_ble_eq_true rfl) dL_law_873 ⟨(Nat.le_of_ble_eq_true rfl), (Nat.le_of_ble_eq_true rfl)⟩) hP hD hPm hab hS hA (fun x_4 u_4 H locs hw_4 hP hD hPm hab hS => ?_)
    subst x_4
    refine lv_pop2_2 hx hb dL_law_876 rfl ?_
    refine lv_aload_n hx hb dL_law_877 rfl (lv_at hl 2 rfl) ?_
    refine lv_aload_n hx hb dL_law_878 rfl (lv_at hl 0 rfl) ?_
    refine lv_iload_n hx hb dL_law_879 rfl (lv_at hl 3 rfl) ?_
    refine lv_iconst (v := 1) hx hb dL_law_880 (by decide) ?_
    refine lv_iadd hx hb dL_law_881 ?_
    refine gw_topi (y := (nI (i + 1))) (nI_add i 1) ?_
    refine gw_sld hx hb hX hbl hbA hS (i + 1) rfl (by omega) (by omega) dL_law_882 ?_
    refine lv_aload_n hx hb dL_law_883 rfl (lv_at hl 0 rfl) ?_
    refine lv_iload_n hx hb dL_law_884 rfl (lv_at hl 3 rfl) ?_
    refine lv_iconst (v := 2) hx hb dL_law_885 (by decide) ?_
    refine lv_iadd hx hb dL_law_886 ?_
    refine gw_topi (y := (nI (i + 2))) (nI_add i 2) ?_
    refine gw_sld hx hb hX hbl hbA hS (i + 2) rfl (by omega) (by omega) dL_law_887 ?_
    refine lv_aload_n hx hb dL_law_888 rfl (lv_at hl 0 rfl) ?_
    refine lv_iload_n hx hb dL_law_889 rfl (lv_at hl 3 rfl) ?_
    refine lv_iconst (v := 3) hx hb dL_law_890 (by decide) ?_
    refine lv_iadd hx hb dL_law_891 ?_
    refine gw_topi (y := (nI (i + 3))) (nI_add i 3) ?_
    refine gw_sld hx hb hX hbl hbA hS (i + 3) rfl (by omega) (by omega) dL_law_892 ?_
    refine lv_if_eq (tgt := 900) hx hb dL_law_893 (by decide) (fun c => absurd c c_1) (fun _ => ?_)
    refine lv_iconst (v := 1) hx hb dL_law_896 (by decide) ?_
    refine lv_goto (tgt := 901) hx hb dL_law_897 (by decide) ?_
    refine gx2_calll (gx_runV (As := [.int (xs (i + 1)), .int (xs (i + 2)), .int 1]) (rest := []) ⟨hx, hb, hml, hown, hts⟩ (c_X9_odds l G cI cJ cZ cB cT m0 r g (xs (i + 1)) (xs (i + 2)) 1 r2 g1 e2 H.size) (gG_V m_1107 m_1108 m_1109 m_64 m_1110) rfl e_X9_odds ⟨(Nat.le_of_ble_eq_true rfl), (Nat.le_of_ble_eq_true rfl)⟩ hK hPm hDm hE hS hA 0 wM_at0 rfl rfl hl.1 rfl (Nat.le_of_ble_eq_true rfl) dL_law_901 ⟨(Nat.le_of_ble_eq_true rfl), (Nat.le_of_ble_eq_true rfl)⟩) hPm hDm hP hab.swap hS hA (fun x_5 u_5 H locs hw_5 hPm hDm hP hba hS => ?_)
    have hab := hba.swap
    subst x_5
    refine lv_pop2_2 hx hb dL_law_904 rfl ?_
    refine lv_goto (tgt := 1013) hx hb dL_law_905 (by decide) ?_
    exact hback h1 g1 hI1 H _ ls hP hD hPm hDm hab hS (lv_sub hl [0, 1, 2, 3] rfl)
theorem e_X8_plan : yX8_plan.cls = RX8 ∧ yX8_plan.cls ≠ "java/lang/invoke/MethodHandle" ∧ yX8_plan.cls ≠ "java/lang/invoke/VarHandle" ∧ (parseMethodDescriptor yX8_plan.desc).map (fun d => d.parameters.length) = some 3 := by decide +kernel
theorem e_X9_plan : yX9_plan.cls = RX9 ∧ yX9_plan.cls ≠ "java/lang/invoke/MethodHandle" ∧ yX9_plan.cls ≠ "java/lang/invoke/VarHandle" ∧ (parseMethodDescriptor yX9_plan.desc).map (fun d => d.parameters.length) = some 3 := by decide +kernel
set_option maxHeartbeats 4000000 in
set_option maxRecDepth 100000 in
theorem law_case24 {p : Program} {l : Launch} {e : Env} {s : State} {m : MethodId} {below : List Frame} {meth : Method} {c : Code} {G : va_G} {cI cJ cZ cB cT : ClassId} {b L : Nat} {xs : Nat → Int32} {A : Nat → Prop} {Inv : HS → HS → Prop} (hL : L ≤ 3072) (C0 : lw_At p s m meth c b L xs) (hAs : ∀ q, A q → s.heap.size ≤ q) (hA : ∀ q, s.heap.size ≤ q → A q) (hK : va_K G vwCl (gT cI cJ cZ cB cT) s) (hE : gEX G A s) {q r : Nat → Nat} {m0 : Nat} (hst : LawStep (fun k => k = 8) Inv) {i : Nat} (hi : i + 6 ≤ L) (hback : ∀ (h g : HS), Inv h g → ∀ (H : Heap) (locs : List Loc) (ls : Array Slot), va_P G vwCl (wC q cI cJ cZ cB cT h) H → va_D A (wC q cI cJ cZ cB cT h) → va_P G vwCl (wM m0 r cI cJ cZ cB cT g) H → va_D A (wM m0 r cI cJ cZ cB cT g) → gApart (wC q cI cJ cZ cB cT h) (wM m0 r cI cJ cZ cB cT g) → va_S A s.heap H locs → lv_has ls 4 [(0, .ref b), (1, .ref (q 0)), (2, .ref m0), (3, .int (nI i))] → W p l e room_1 s m #[Value.ref b] below meth c H locs 600000 7302249 (lw_Z below #[Value.ref b] s) (F0 m 1013 ls [])) {h g : HS} (hI : Inv h g) {H : Heap} {locs : List Loc} {ls : Array Slot} (hP : va_P G vwCl (wC q cI cJ cZ cB cT h) H) (hD : va_D A (wC q cI cJ cZ cB cT h)) (hPm : va_P G vwCl (wM m0 r cI cJ cZ cB cT g) H) (hDm : va_D A (wM m0 r cI cJ cZ cB cT g)) (hab : gApart (wC q cI cJ cZ cB cT h) (wM m0 r cI cJ cZ cB cT g)) (hS : va_S A s.heap H locs) (hl : lv_has ls 4 [(0, .ref b), (1, .ref (q 0)), (2, .ref m0), (3, .int (nI i))]) : W p l e room_1 s m #[Value.ref b] below meth c H locs 600000 7302249 (lw_Z below #[Value.ref b] s) (F0 m 908 ls []) := by
  obtain ⟨hx, hb, hr, hml, hown, hts, hX, hbl, hlocks, hgv⟩ := id C0
  have hts : ∀ w ∈ lwc, w.before #[Value.ref b] s = true := fun w h => hts w (lwc_in h)
  have hown : s.vm.findClass RL = some m.cls := hown
  have hbA : ¬ A b := fun h => Nat.lt_irrefl _ (Nat.lt_of_lt_of_le hbl (hAs b h))
  refine lv_aload_n hx hb dL_law_908 rfl (lv_at hl 1 rfl) ?_
  refine lv_aload_n hx hb dL_law_909 rfl (lv_at hl 0 rfl) ?_
  refine lv_iload_n hx hb dL_law_910 rfl (lv_at hl 3 rfl) ?_
  refine lv_iconst (v := 1) hx hb dL_law_911 (by decide) ?_
  refine lv_iadd hx hb dL_law_912 ?_
  refine gw_topi (y := (nI (i + 1))) (nI_add i 1) ?_
  refine gw_sld hx hb hX hbl hbA hS (i + 1) rfl (by omega) (by omega) dL_law_913 ?_
  refine lv_aload_n hx hb dL_law_914 rfl (lv_at hl 0 rfl) ?_
  refine lv_iload_n hx hb dL_law_915 rfl (lv_at hl 3 rfl) ?_
  refine lv_iconst (v := 2) hx hb dL_law_916 (by decide) ?_
  refine lv_iadd hx hb dL_law_917 ?_
  refine gw_topi (y := (nI (i + 2))) (nI_add i 2) ?_
  refine gw_sld hx hb hX hbl hbA hS (i + 2) rfl (by omega) (by omega) dL_law_918 ?_
  refine lv_aload_n hx hb dL_law_919 rfl (lv_at hl 0 rfl) ?_
  refine lv_iload_n hx hb dL_law_920 rfl (lv_at hl 3 rfl) ?_
  refine lv_iconst (v := 3) hx hb dL_law_921 (by decide) ?_
  refine lv_iadd hx hb dL_law_922 ?_
  refine gw_topi (y := (nI (i + 3))) (nI_add i 3) ?_
  refine gw_sld hx hb hX hbl hbA hS (i + 3) rfl (by omega) (by omega) dL_law_923 ?_
  obtain ⟨r1, h1, r2, g1, e1, e2, hI1, hq⟩ := hst.2.2.2.2.2.2.2.2.2.2.2.2.2.2.2.2.2.2.2.2.2.2.2.2.1 h g (xs (i + 1)) (xs (i + 2)) (xs (i + 3)) hI
  refine gx2_calli (gx_runV (As := [.int (xs (i + 1)), .int (xs (i + 2)), .int (xs (i + 3))]) (rest := []) ⟨hx, hb, hml, hown, hts⟩ (c_X8_plan l G cI cJ cZ cB cT q h (xs (i + 1)) (xs (i + 2)) (xs (i + 3)) r1 h1 e1 H.size) (gG_V m_1111 m_1112 m_1113 m_60 m_1114) rfl e_X8_plan ⟨(Nat.le_of_ble_eq_true rfl), (Nat.le_of_ble_eq_true rfl)⟩ hK hP hD hE hS hA 0 wC_at0 rfl rfl hl.1 rfl (Nat.le_of_ble_eq_true rfl) dL_law_924 ⟨(Nat.le_of_ble_eq_true rfl), (Nat.le_of_ble_eq_true rfl)⟩) hP hD hPm hab hS hA (fun x_1 u_1 H locs hw_1 hP hD hPm hab hS => ?_)
  subst x_1
  refine lv_pop hx hb dL_law_927 rfl ?_
  refine lv_aload_n hx hb dL_law_928 rfl (lv_at hl 2 rfl) ?_
  refine lv_aload_n hx hb dL_law_929 rfl (lv_at hl 0 rfl) ?_
  refine lv_iload_n hx hb dL_law_930 rfl (lv_at hl 3 rfl) ?_
  refine lv_iconst (v := 1) hx hb dL_law_931 (by decide) ?_
  refine lv_iadd hx hb dL_law_932 ?_
  refine gw_topi (y := (nI (i + 1))) (nI_add i 1) ?_
  refine gw_sld hx hb hX hbl hbA hS (i + 1) rfl (by omega) (by omega) dL_law_933 ?_
  refine lv_aload_n hx hb dL_law_934 rfl (lv_at hl 0 rfl) ?_
  refine lv_iload_n hx hb dL_law_935 rfl (lv_at hl 3 rfl) ?_
  refine lv_iconst (v := 2) hx hb dL_law_936 (by decide) ?_
  refine lv_iadd hx hb dL_law_937 ?_
  refine gw_topi (y := (nI (i + 2))) (nI_add i 2) ?_
  refine gw_sld hx hb hX hbl hbA hS (i + 2) rfl (by omega) (by omega) dL_law_938 ?_
  refine lv_aload_n hx hb dL_law_939 rfl (lv_at hl 0 rfl) ?_
  refine lv_iload_n hx hb dL_law_940 rfl (lv_at hl 3 rfl) ?_
  refine lv_iconst (v := 3) hx hb dL_law_941 (by decide) ?_
  refine lv_iadd hx hb dL_law_942 ?_
  refine gw_topi (y := (nI (i + 3))) (nI_add i 3) ?_
  refine gw_sld hx hb hX hbl hbA hS (i + 3) rfl (by omega) (by omega) dL_law_943 ?_
  refine gx2_calli (gx_runV (As := [.int (xs (i + 1)), .int (xs (i + 2)), .int (xs (i + 3))]) (rest := []) ⟨hx, hb, hml, hown, hts⟩ (c_X9_plan l G cI cJ cZ cB cT m0 r g (xs (i + 1)) (xs (i + 2)) (xs (i + 3)) r2 g1 e2 H.size) (gG_V m_1115 m_1116 m_1117 m_64 m_1118) rfl e_X9_plan ⟨(Nat.le_of_ble_eq_true rfl), (Nat.le_of_ble_eq_true rfl)⟩ hK hPm hDm hE hS hA 0 wM_at0 rfl rfl hl.1 rfl (Nat.le_of_ble_eq_true rfl) dL_law_944 ⟨(Nat.le_of_ble_eq_true rfl), (Nat.le_of_ble_eq_true rfl)⟩) hPm hDm hP hab.swap hS hA (fun x_2 u_2 H locs hw_2 hPm hDm hP hba hS => ?_)
  have hab := hba.swap
  subst x_2
  refine lv_pop hx hb dL_law_947 rfl ?_
  refine lv_goto (tgt := 1013) hx hb dL_law_948 (by decide) ?_
  exact hback h1 g1 hI1 H _ ls hP hD hPm hDm hab hS (lv_sub hl [0, 1, 2, 3] rfl)
theorem e_X8_holds : yX8_holds.cls = RX8 ∧ yX8_holds.cls ≠ "java/lang/invoke/MethodHandle" ∧ yX8_holds.cls ≠ "java/lang/invoke/VarHandle" ∧ (parseMethodDescriptor yX8_holds.desc).map (fun d => d.parameters.length) = some 0 := by decide +kernel
theorem e_X9_holds : yX9_holds.cls = RX9 ∧ yX9_holds.cls ≠ "java/lang/invoke/MethodHandle" ∧ yX9_holds.cls ≠ "java/lang/invoke/VarHandle" ∧ (parseMethodDescriptor yX9_holds.desc).map (fun d => d.parameters.length) = some 0 := by decide +kernel
set_option maxHeartbeats 4000000 in
set_option maxRecDepth 100000 in
theorem law_case25 {p : Program} {l : Launch} {e : Env} {s : State} {m : MethodId} {below : List Frame} {meth : Method} {c : Code} {G : va_G} {cI cJ cZ cB cT : ClassId} {b L : Nat} {xs : Nat → Int32} {A : Nat → Prop} {Inv : HS → HS → Prop} (hL : L ≤ 3072) (C0 : lw_At p s m meth c b L xs) (hAs : ∀ q, A q → s.heap.size ≤ q) (hA : ∀ q, s.heap.size ≤ q → A q) (hK : va_K G vwCl (gT cI cJ cZ cB cT) s) (hE : gEX G A s) {q r : Nat → Nat} {m0 : Nat} (hst : LawStep (fun k => k = 8) Inv) {i : Nat} (hi : i + 6 ≤ L) (hback : ∀ (h g : HS), Inv h g → ∀ (H : Heap) (locs : List Loc) (ls : Array Slot), va_P G vwCl (wC q cI cJ cZ cB cT h) H → va_D A (wC q cI cJ cZ cB cT h) → va_P G vwCl (wM m0 r cI cJ cZ cB cT g) H → va_D A (wM m0 r cI cJ cZ cB cT g) → gApart (wC q cI cJ cZ cB cT h) (wM m0 r cI cJ cZ cB cT g) → va_S A s.heap H locs → lv_has ls 4 [(0, .ref b), (1, .ref (q 0)), (2, .ref m0), (3, .int (nI i))] → W p l e room_1 s m #[Value.ref b] below meth c H locs 600000 7302249 (lw_Z below #[Value.ref b] s) (F0 m 1013 ls [])) {h g : HS} (hI : Inv h g) {H : Heap} {locs : List Loc} {ls : Array Slot} (hP : va_P G vwCl (wC q cI cJ cZ cB cT h) H) (hD : va_D A (wC q cI cJ cZ cB cT h)) (hPm : va_P G vwCl (wM m0 r cI cJ cZ cB cT g) H) (hDm : va_D A (wM m0 r cI cJ cZ cB cT g)) (hab : gApart (wC q cI cJ cZ cB cT h) (wM m0 r cI cJ cZ cB cT g)) (hS : va_S A s.heap H locs) (hl : lv_has ls 4 [(0, .ref b), (1, .ref (q 0)), (2, .ref m0), (3, .int (nI i))]) : W p l e room_1 s m #[Value.ref b] below meth c H locs 600000 7302249 (lw_Z below #[Value.ref b] s) (F0 m 951 ls []) := by
  obtain ⟨hx, hb, hr, hml, hown, hts, hX, hbl, hlocks, hgv⟩ := id C0
  have hts : ∀ w ∈ lwc, w.before #[Value.ref b] s = true := fun w h => hts w (lwc_in h)
  have hown : s.vm.findClass RL = some m.cls := hown
  have hbA : ¬ A b := fun h => Nat.lt_irrefl _ (Nat.lt_of_lt_of_le hbl (hAs b h))
  refine lv_aload_n hx hb dL_law_951 rfl (lv_at hl 1 rfl) ?_
  obtain ⟨r1, h1, r2, g1, e1, e2, hI1, hq⟩ := hst.2.2.2.2.2.2.2.2.2.2.2.2.2.2.2.2.2.2.2.2.2.2.2.2.2.1 h g  hI
  refine gx2_calli (gx_runV (As := []) (rest := []) ⟨hx, hb, hml, hown, hts⟩ (c_X8_holds l G cI cJ cZ cB cT q h  r1 h1 e1 H.size) (gG_V m_1119 m_1120 m_1121 m_60 m_1122) rfl e_X8_holds ⟨(Nat.le_of_ble_eq_true rfl), (Nat.le_of_ble_eq_true rfl)⟩ hK hP hD hE hS hA 0 wC_at0 rfl rfl hl.1 rfl (Nat.le_of_ble_eq_true rfl) dL_law_952 ⟨(Nat.le_of_ble_eq_true rfl), (Nat.le_of_ble_eq_true rfl)⟩) hP hD hPm hab hS hA (fun x_1 u_1 H locs hw_1 hP hD hPm hab hS => ?_)
  subst x_1
  refine lv_pop hx hb dL_law_955 rfl ?_
  refine lv_aload_n hx hb dL_law_956 rfl (lv_at hl 2 rfl) ?_
  refine gx2_calli (gx_runV (As := []) (rest := []) ⟨hx, hb, hml, hown, hts⟩ (c_X9_holds l G cI cJ cZ cB cT m0 r g  r2 g1 e2 H.size) (gG_V m_1123 m_1124 m_1125 m_64 m_1126) rfl e_X9_holds ⟨(Nat.le_of_ble_eq_true rfl), (Nat.le_of_ble_eq_true rfl)⟩ hK hPm hDm hE hS hA 0 wM_at0 rfl rfl hl.1 rfl (Nat.le_of_ble_eq_true rfl) dL_law_957 ⟨(Nat.le_of_ble_eq_true rfl), (Nat.le_of_ble_eq_true rfl)⟩) hPm hDm hP hab.swap hS hA (fun x_2 u_2 H locs hw_2 hPm hDm hP hba hS => ?_)
  have hab := hba.swap
  subst x_2
  refine lv_pop hx hb dL_law_960 rfl ?_
  refine lv_goto (tgt := 1013) hx hb dL_law_961 (by decide) ?_
  exact hback h1 g1 hI1 H _ ls hP hD hPm hDm hab hS (lv_sub hl [0, 1, 2, 3] rfl)
theorem e_X8_image : yX8_image.cls = RX8 ∧ yX8_image.cls ≠ "java/lang/invoke/MethodHandle" ∧ yX8_image.cls ≠ "java/lang/invoke/VarHandle" ∧ (parseMethodDescriptor yX8_image.desc).map (fun d => d.parameters.length) = some 0 := by decide +kernel
theorem e_X9_image : yX9_image.cls = RX9 ∧ yX9_image.cls ≠ "java/lang/invoke/MethodHandle" ∧ yX9_image.cls ≠ "java/lang/invoke/VarHandle" ∧ (parseMethodDescriptor yX9_image.desc).map (fun d => d.parameters.length) = some 0 := by decide +kernel
set_option maxHeartbeats 4000000 in
set_option maxRecDepth 100000 in
theorem law_case26 {p : Program} {l : Launch} {e : Env} {s : State} {m : MethodId} {below : List Frame} {meth : Method} {c : Code} {G : va_G} {cI cJ cZ cB cT : ClassId} {b L : Nat} {xs : Nat → Int32} {A : Nat → Prop} {Inv : HS → HS → Prop} (hL : L ≤ 3072) (C0 : lw_At p s m meth c b L xs) (hAs : ∀ q, A q → s.heap.size ≤ q) (hA : ∀ q, s.heap.size ≤ q → A q) (hK : va_K G vwCl (gT cI cJ cZ cB cT) s) (hE : gEX G A s) {q r : Nat → Nat} {m0 : Nat} (hst : LawStep (fun k => k = 8) Inv) {i : Nat} (hi : i + 6 ≤ L) (hback : ∀ (h g : HS), Inv h g → ∀ (H : Heap) (locs : List Loc) (ls : Array Slot), va_P G vwCl (wC q cI cJ cZ cB cT h) H → va_D A (wC q cI cJ cZ cB cT h) → va_P G vwCl (wM m0 r cI cJ cZ cB cT g) H → va_D A (wM m0 r cI cJ cZ cB cT g) → gApart (wC q cI cJ cZ cB cT h) (wM m0 r cI cJ cZ cB cT g) → va_S A s.heap H locs → lv_has ls 4 [(0, .ref b), (1, .ref (q 0)), (2, .ref m0), (3, .int (nI i))] → W p l e room_1 s m #[Value.ref b] below meth c H locs 600000 7302249 (lw_Z below #[Value.ref b] s) (F0 m 1013 ls [])) {h g : HS} (hI : Inv h g) {H : Heap} {locs : List Loc} {ls : Array Slot} (hP : va_P G vwCl (wC q cI cJ cZ cB cT h) H) (hD : va_D A (wC q cI cJ cZ cB cT h)) (hPm : va_P G vwCl (wM m0 r cI cJ cZ cB cT g) H) (hDm : va_D A (wM m0 r cI cJ cZ cB cT g)) (hab : gApart (wC q cI cJ cZ cB cT h) (wM m0 r cI cJ cZ cB cT g)) (hS : va_S A s.heap H locs) (hl : lv_has ls 4 [(0, .ref b), (1, .ref (q 0)), (2, .ref m0), (3, .int (nI i))]) : W p l e room_1 s m #[Value.ref b] below meth c H locs 600000 7302249 (lw_Z below #[Value.ref b] s) (F0 m 964 ls []) := by
  obtain ⟨hx, hb, hr, hml, hown, hts, hX, hbl, hlocks, hgv⟩ := id C0
  have hts : ∀ w ∈ lwc, w.before #[Value.ref b] s = true := fun w h => hts w (lwc_in h)
  have hown : s.vm.findClass RL = some m.cls := hown
  have hbA : ¬ A b := fun h => Nat.lt_irrefl _ (Nat.lt_of_lt_of_le hbl (hAs b h))
  refine lv_aload_n hx hb dL_law_964 rfl (lv_at hl 1 rfl) ?_
  obtain ⟨r1, h1, r2, g1, e1, e2, hI1, hq⟩ := hst.2.2.2.2.2.2.2.2.2.2.2.2.2.2.2.2.2.2.2.2.2.2.2.2.2.2.1 h g  hI
  refine gx2_calli (gx_runV (As := []) (rest := []) ⟨hx, hb, hml, hown, hts⟩ (c_X8_image l G cI cJ cZ cB cT q h  r1 h1 e1 H.size) (gG_V m_1127 m_1128 m_1129 m_60 m_1130) rfl e_X8_image ⟨(Nat.le_of_ble_eq_true rfl), (Nat.le_of_ble_eq_true rfl)⟩ hK hP hD hE hS hA 0 wC_at0 rfl rfl hl.1 rfl (Nat.le_of_ble_eq_true rfl) dL_law_965 ⟨(Nat.le_of_ble_eq_true rfl), (Nat.le_of_ble_eq_true rfl)⟩) hP hD hPm hab hS hA (fun x_1 u_1 H locs hw_1 hP hD hPm hab hS => ?_)
  subst x_1
  refine lv_pop hx hb dL_law_968 rfl ?_
  refine lv_aload_n hx hb dL_law_969 rfl (lv_at hl 2 rfl) ?_
  refine gx2_calli (gx_runV (As := []) (rest := []) ⟨hx, hb, hml, hown, hts⟩ (c_X9_image l G cI cJ cZ cB cT m0 r g  r2 g1 e2 H.size) (gG_V m_1131 m_1132 m_1133 m_64 m_1134) rfl e_X9_image ⟨(Nat.le_of_ble_eq_true rfl), (Nat.le_of_ble_eq_true rfl)⟩ hK hPm hDm hE hS hA 0 wM_at0 rfl rfl hl.1 rfl (Nat.le_of_ble_eq_true rfl) dL_law_970 ⟨(Nat.le_of_ble_eq_true rfl), (Nat.le_of_ble_eq_true rfl)⟩) hPm hDm hP hab.swap hS hA (fun x_2 u_2 H locs hw_2 hPm hDm hP hba hS => ?_)
  have hab := hba.swap
  subst x_2
  refine lv_pop hx hb dL_law_973 rfl ?_
  refine lv_goto (tgt := 1013) hx hb dL_law_974 (by decide) ?_
  exact hback h1 g1 hI1 H _ ls hP hD hPm hDm hab hS (lv_sub hl [0, 1, 2, 3] rfl)
theorem e_X8_back : yX8_back.cls = RX8 ∧ yX8_back.cls ≠ "java/lang/invoke/MethodHandle" ∧ yX8_back.cls ≠ "java/lang/invoke/VarHandle" ∧ (parseMethodDescriptor yX8_back.desc).map (fun d => d.parameters.length) = some 0 := by decide +kernel
theorem e_X9_back : yX9_back.cls = RX9 ∧ yX9_back.cls ≠ "java/lang/invoke/MethodHandle" ∧ yX9_back.cls ≠ "java/lang/invoke/VarHandle" ∧ (parseMethodDescriptor yX9_back.desc).map (fun d => d.parameters.length) = some 0 := by decide +kernel
set_option maxHeartbeats 4000000 in
set_option maxRecDepth 100000 in
theorem law_case27 {p : Program} {l : Launch} {e : Env} {s : State} {m : MethodId} {below : List Frame} {meth : Method} {c : Code} {G : va_G} {cI cJ cZ cB cT : ClassId} {b L : Nat} {xs : Nat → Int32} {A : Nat → Prop} {Inv : HS → HS → Prop} (hL : L ≤ 3072) (C0 : lw_At p s m meth c b L xs) (hAs : ∀ q, A q → s.heap.size ≤ q) (hA : ∀ q, s.heap.size ≤ q → A q) (hK : va_K G vwCl (gT cI cJ cZ cB cT) s) (hE : gEX G A s) {q r : Nat → Nat} {m0 : Nat} (hst : LawStep (fun k => k = 8) Inv) {i : Nat} (hi : i + 6 ≤ L) (hback : ∀ (h g : HS), Inv h g → ∀ (H : Heap) (locs : List Loc) (ls : Array Slot), va_P G vwCl (wC q cI cJ cZ cB cT h) H → va_D A (wC q cI cJ cZ cB cT h) → va_P G vwCl (wM m0 r cI cJ cZ cB cT g) H → va_D A (wM m0 r cI cJ cZ cB cT g) → gApart (wC q cI cJ cZ cB cT h) (wM m0 r cI cJ cZ cB cT g) → va_S A s.heap H locs → lv_has ls 4 [(0, .ref b), (1, .ref (q 0)), (2, .ref m0), (3, .int (nI i))] → W p l e room_1 s m #[Value.ref b] below meth c H locs 600000 7302249 (lw_Z below #[Value.ref b] s) (F0 m 1013 ls [])) {h g : HS} (hI : Inv h g) {H : Heap} {locs : List Loc} {ls : Array Slot} (hP : va_P G vwCl (wC q cI cJ cZ cB cT h) H) (hD : va_D A (wC q cI cJ cZ cB cT h)) (hPm : va_P G vwCl (wM m0 r cI cJ cZ cB cT g) H) (hDm : va_D A (wM m0 r cI cJ cZ cB cT g)) (hab : gApart (wC q cI cJ cZ cB cT h) (wM m0 r cI cJ cZ cB cT g)) (hS : va_S A s.heap H locs) (hl : lv_has ls 4 [(0, .ref b), (1, .ref (q 0)), (2, .ref m0), (3, .int (nI i))]) : W p l e room_1 s m #[Value.ref b] below meth c H locs 600000 7302249 (lw_Z below #[Value.ref b] s) (F0 m 977 ls []) := by
  obtain ⟨hx, hb, hr, hml, hown, hts, hX, hbl, hlocks, hgv⟩ := id C0
  have hts : ∀ w ∈ lwc, w.before #[Value.ref b] s = true := fun w h => hts w (lwc_in h)
  have hown : s.vm.findClass RL = some m.cls := hown
  have hbA : ¬ A b := fun h => Nat.lt_irrefl _ (Nat.lt_of_lt_of_le hbl (hAs b h))
  refine lv_aload_n hx hb dL_law_977 rfl (lv_at hl 1 rfl) ?_
  obtain ⟨r1, h1, r2, g1, e1, e2, hI1, hq⟩ := hst.2.2.2.2.2.2.2.2.2.2.2.2.2.2.2.2.2.2.2.2.2.2.2.2.2.2.2.1 h g  hI
  refine gx2_calli (gx_runV (As := []) (rest := []) ⟨hx, hb, hml, hown, hts⟩ (c_X8_back l G cI cJ cZ cB cT q h  r1 h1 e1 H.size) (gG_V m_1135 m_1136 m_1137 m_60 m_1138) rfl e_X8_back ⟨(Nat.le_of_ble_eq_true rfl), (Nat.le_of_ble_eq_true rfl)⟩ hK hP hD hE hS hA 0 wC_at0 rfl rfl hl.1 rfl (Nat.le_of_ble_eq_true rfl) dL_law_978 ⟨(Nat.le_of_ble_eq_true rfl), (Nat.le_of_ble_eq_true rfl)⟩) hP hD hPm hab hS hA (fun x_1 u_1 H locs hw_1 hP hD hPm hab hS => ?_)
  subst x_1
  refine lv_pop hx hb dL_law_981 rfl ?_
  refine lv_aload_n hx hb dL_law_982 rfl (lv_at hl 2 rfl) ?_
  refine gx2_calli (gx_runV (As := []) (rest := []) ⟨hx, hb, hml, hown, hts⟩ (c_X9_back l G cI cJ cZ cB cT m0 r g  r2 g1 e2 H.size) (gG_V m_1139 m_1140 m_1141 m_64 m_1142) rfl e_X9_back ⟨(Nat.le_of_ble_eq_true rfl), (Nat.le_of_ble_eq_true rfl)⟩ hK hPm hDm hE hS hA 0 wM_at0 rfl rfl hl.1 rfl (Nat.le_of_ble_eq_true rfl) dL_law_983 ⟨(Nat.le_of_ble_eq_true rfl), (Nat.le_of_ble_eq_true rfl)⟩) hPm hDm hP hab.swap hS hA (fun x_2 u_2 H locs hw_2 hPm hDm hP hba hS => ?_)
  have hab := hba.swap
  subst x_2
  refine lv_pop hx hb dL_law_986 rfl ?_
  refine lv_goto (tgt := 1013) hx hb dL_law_987 (by decide) ?_
  exact hback h1 g1 hI1 H _ ls hP hD hPm hDm hab hS (lv_sub hl [0, 1, 2, 3] rfl)
theorem e_X8_about : yX8_about.cls = RX8 ∧ yX8_about.cls ≠ "java/lang/invoke/MethodHandle" ∧ yX8_about.cls ≠ "java/lang/invoke/VarHandle" ∧ (parseMethodDescriptor yX8_about.desc).map (fun d => d.parameters.length) = some 1 := by decide +kernel
theorem e_X9_about : yX9_about.cls = RX9 ∧ yX9_about.cls ≠ "java/lang/invoke/MethodHandle" ∧ yX9_about.cls ≠ "java/lang/invoke/VarHandle" ∧ (parseMethodDescriptor yX9_about.desc).map (fun d => d.parameters.length) = some 1 := by decide +kernel
set_option maxHeartbeats 4000000 in
set_option maxRecDepth 100000 in
theorem law_case28 {p : Program} {l : Launch} {e : Env} {s : State} {m : MethodId} {below : List Frame} {meth : Method} {c : Code} {G : va_G} {cI cJ cZ cB cT : ClassId} {b L : Nat} {xs : Nat → Int32} {A : Nat → Prop} {Inv : HS → HS → Prop} (hL : L ≤ 3072) (C0 : lw_At p s m meth c b L xs) (hAs : ∀ q, A q → s.heap.size ≤ q) (hA : ∀ q, s.heap.size ≤ q → A q) (hK : va_K G vwCl (gT cI cJ cZ cB cT) s) (hE : gEX G A s) {q r : Nat → Nat} {m0 : Nat} (hst : LawStep (fun k => k = 8) Inv) {i : Nat} (hi : i + 6 ≤ L) (hback : ∀ (h g : HS), Inv h g → ∀ (H : Heap) (locs : List Loc) (ls : Array Slot), va_P G vwCl (wC q cI cJ cZ cB cT h) H → va_D A (wC q cI cJ cZ cB cT h) → va_P G vwCl (wM m0 r cI cJ cZ cB cT g) H → va_D A (wM m0 r cI cJ cZ cB cT g) → gApart (wC q cI cJ cZ cB cT h) (wM m0 r cI cJ cZ cB cT g) → va_S A s.heap H locs → lv_has ls 4 [(0, .ref b), (1, .ref (q 0)), (2, .ref m0), (3, .int (nI i))] → W p l e room_1 s m #[Value.ref b] below meth c H locs 600000 7302249 (lw_Z below #[Value.ref b] s) (F0 m 1013 ls [])) {h g : HS} (hI : Inv h g) {H : Heap} {locs : List Loc} {ls : Array Slot} (hP : va_P G vwCl (wC q cI cJ cZ cB cT h) H) (hD : va_D A (wC q cI cJ cZ cB cT h)) (hPm : va_P G vwCl (wM m0 r cI cJ cZ cB cT g) H) (hDm : va_D A (wM m0 r cI cJ cZ cB cT g)) (hab : gApart (wC q cI cJ cZ cB cT h) (wM m0 r cI cJ cZ cB cT g)) (hS : va_S A s.heap H locs) (hl : lv_has ls 4 [(0, .ref b), (1, .ref (q 0)), (2, .ref m0), (3, .int (nI i))]) : W p l e room_1 s m #[Value.ref b] below meth c H locs 600000 7302249 (lw_Z below #[Value.ref b] s) (F0 m 990 ls []) := by
  obtain ⟨hx, hb, hr, hml, hown, hts, hX, hbl, hlocks, hgv⟩ := id C0
  have hts : ∀ w ∈ lwc, w.before #[Value.ref b] s = true := fun w h => hts w (lwc_in h)
  have hown : s.vm.findClass RL = some m.cls := hown
  have hbA : ¬ A b := fun h => Nat.lt_irrefl _ (Nat.lt_of_lt_of_le hbl (hAs b h))
  refine lv_aload_n hx hb dL_law_990 rfl (lv_at hl 1 rfl) ?_
  refine lv_aload_n hx hb dL_law_991 rfl (lv_at hl 0 rfl) ?_
  refine lv_iload_n hx hb dL_law_992 rfl (lv_at hl 3 rfl) ?_
  refine lv_iconst (v := 1) hx hb dL_law_993 (by decide) ?_
  refine lv_iadd hx hb dL_law_994 ?_
  refine gw_topi (y := (nI (i + 1))) (nI_add i 1) ?_
  refine gw_sld hx hb hX hbl hbA hS (i + 1) rfl (by omega) (by omega) dL_law_995 ?_
  obtain ⟨r1, h1, r2, g1, e1, e2, hI1, hq⟩ := hst.2.2.2.2.2.2.2.2.2.2.2.2.2.2.2.2.2.2.2.2.2.2.2.2.2.2.2.2 h g (xs (i + 1)) hI
  refine gx2_calli (gx_runV (As := [.int (xs (i + 1))]) (rest := []) ⟨hx, hb, hml, hown, hts⟩ (c_X8_about l G cI cJ cZ cB cT q h (xs (i + 1)) r1 h1 e1 H.size) (gG_V m_1143 m_1144 m_1145 m_60 m_1146) rfl e_X8_about ⟨(Nat.le_of_ble_eq_true rfl), (Nat.le_of_ble_eq_true rfl)⟩ hK hP hD hE hS hA 0 wC_at0 rfl rfl hl.1 rfl (Nat.le_of_ble_eq_true rfl) dL_law_996 ⟨(Nat.le_of_ble_eq_true rfl), (Nat.le_of_ble_eq_true rfl)⟩) hP hD hPm hab hS hA (fun x_1 u_1 H locs hw_1 hP hD hPm hab hS => ?_)
  subst x_1
  refine lv_pop hx hb dL_law_999 rfl ?_
  refine lv_aload_n hx hb dL_law_1000 rfl (lv_at hl 2 rfl) ?_
  refine lv_aload_n hx hb dL_law_1001 rfl (lv_at hl 0 rfl) ?_
  refine lv_iload_n hx hb dL_law_1002 rfl (lv_at hl 3 rfl) ?_
  refine lv_iconst (v := 1) hx hb dL_law_1003 (by decide) ?_
  refine lv_iadd hx hb dL_law_1004 ?_
  refine gw_topi (y := (nI (i + 1))) (nI_add i 1) ?_
  refine gw_sld hx hb hX hbl hbA hS (i + 1) rfl (by omega) (by omega) dL_law_1005 ?_
  refine gx2_calli (gx_runV (As := [.int (xs (i + 1))]) (rest := []) ⟨hx, hb, hml, hown, hts⟩ (c_X9_about l G cI cJ cZ cB cT m0 r g (xs (i + 1)) r2 g1 e2 H.size) (gG_V m_1147 m_1148 m_1149 m_64 m_1150) rfl e_X9_about ⟨(Nat.le_of_ble_eq_true rfl), (Nat.le_of_ble_eq_true rfl)⟩ hK hPm hDm hE hS hA 0 wM_at0 rfl rfl hl.1 rfl (Nat.le_of_ble_eq_true rfl) dL_law_1006 ⟨(Nat.le_of_ble_eq_true rfl), (Nat.le_of_ble_eq_true rfl)⟩) hPm hDm hP hab.swap hS hA (fun x_2 u_2 H locs hw_2 hPm hDm hP hba hS => ?_)
  have hab := hba.swap
  subst x_2
  refine lv_pop hx hb dL_law_1009 rfl ?_
  refine lv_goto (tgt := 1013) hx hb dL_law_1010 (by decide) ?_
  exact hback h1 g1 hI1 H _ ls hP hD hPm hDm hab hS (lv_sub hl [0, 1, 2, 3] rfl)
