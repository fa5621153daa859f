/-! constructors: a contract that makes cells; words that are told beside the lists -/
abbrev gRc (k mc ms : Nat) : Room := { frames := k, cells := mc, slots := ms, locals := 100 * k }
abbrev gMc {S : Type} (l : Launch) (y : MethodName) (wd : List Cond) (k mc ms : Nat) (G : va_G) (tys : List (ClassId × FieldType)) (Ex : State → Prop) (av : List Value) (ws : va_W) (post : S → Prop) (w1 : S → va_W) : Prop := ∀ sz : Nat, Met l y wd (gRc k mc ms) (va_Pc av (fun U => gP G tys ws sz U ∧ Ex U)) (va_Qv post (gB G w1 (va_A ws sz)) (va_A ws sz)) mc ms (va_A ws sz)
/-- told words that neither a call nor a warmer machine takes away -/
def gKeeps (Ex : State → Prop) : Prop := (∀ (U : State) (g : JFrame) (mk : MethodId) (a : Array Value), Ex U → Ex (U.calling g mk a)) ∧ ∀ s U : State, s.WarmedH U.vm → Ex s → Ex U
theorem gM_startx {l : Launch} {cc : ByteArray} {G : va_G} {y : MethodName} {rm : Room} {av : List Value} {tys : List (ClassId × FieldType)} {ws : va_W} {sz : Nat} {Ex : State → Prop} {Qf : (Nat → Prop) → Array Value → State → Outcome → State → Prop} {mc ms maxL : Nat} {ret : Option FieldType} (hy : plainName y.cls = true) (hav : (lg_sl av).length ≤ maxL)
    (body : ∀ (p : Program) (e : Env) (s : State) (m : MethodId) (args : Array Value) (below : List Frame) (meth : Method) (c : Code) (A : Nat → Prop) (ls : Array Slot) (H : Heap), p.tables.exec = Jvm.exec → c.code = cc → meth.sig.returnType = ret → (∀ w ∈ lwc, w.before args s = true) → s.vm.findClass y.cls = some m.cls → meth.name = y.name → meth.locks = false → c.maxLocals = maxL → va_P G vwCl ws H → va_K G vwCl tys s → va_D A ws → (∀ q, s.heap.size ≤ q → A q) → va_S A s.heap H [] → lv_has ls maxL (lv_args 0 av) → Ex s → gEX G A s → W p l e rm s m args below meth c H [] 0 0 (MQ below (Qf A) args s mc ms A) (F0 m 0 ls [])) :
    Met l y (gws y cc maxL ret) rm (va_Pc av (fun U => gP G tys ws sz U ∧ Ex U)) (Qf (va_A ws sz)) mc ms (va_A ws sz) := by
  refine Met.ofW hy rfl ?_
  intro p e s m args below meth c s₁ B hml hv
  obtain ⟨rfl, ⟨hsz, hP, hK, hD0, hX⟩, hE⟩ := hv
  subst hsz
  have h := body p e s m av.toArray below meth c (va_A ws s.heap.size) ((lg_sl av ++ List.replicate (maxL - (lg_sl av).length) Slot.unset).toArray) s.heap B.exec B.bytes B.returns (fun w h => atoms_spec (ws := gws y cc maxL ret) B.pre w (List.mem_cons_of_mem _ h)) (findClass_of_methodNamed B.named) (name_of_methodNamed B.named B.method).1 B.notSynchronized hml hP hK hD0.self (fun q h => Or.inr h) va_S.rf (lv_entry av hav) hE hX
  rw [lg_entry_eq]
  exact h
section GC
variable {p : Program} {l : Launch} {e : Env} {R : Room} {s : State} {m : MethodId} {args : Array Value} {below : List Frame} {meth : Method} {c : Code} {H : Heap} {locs : List Loc} {cells slots : Nat} {Q : State → Prop} {pc : Nat} {ls : Array Slot} {rest st0 : List Value} {G : va_G} {tys : List (ClassId × FieldType)} {ws : va_W} {A : Nat → Prop} {H0 : Heap} {cc : ByteArray}
theorem gw_newa (hx : p.tables.exec = Jvm.exec) (hb : c.code = cc) {atype : ArrayType} (harr : (Cond.arrayClass (newarray.typeOf atype)).before args s = true) {ty : FieldType} (hty : newarray.typeOf atype = ty) (hK : va_K G vwCl tys s) (hP : va_P G vwCl ws H) (hD : va_D A ws) (hS : va_S A H0 H locs) (hA : ∀ q, H0.size ≤ q → A q) (t0 : Nat) {cI : ClassId} (ht : tys[t0]? = some (cI, ty)) (hra : ∀ (U : State) (cA : ClassId), va_RA U cA ty → U.vm.findClass ("[" ++ ty.toString) = some cA)
    {n : Int32} {N' : Nat} {a0 : vp_A} (ha : ∀ cA : ClassId, vp_cell cA a0 = arrV cA N' (fun _ => defaultValue ty)) (hn : ¬ n < 0) (hN : n.toNatClampNeg = N') (hbytes : N' * componentBytes ty ≤ 536870912) (hcells : cells + 1 ≤ R.cells) (hslots : slots + N' ≤ R.slots) (hdg : decode cc pc = .ok (.newarray atype, 2))
    (kk : ∀ (q : Nat) (H1 : Heap), va_P G vwCl (ws ++ [(q, .inl (cI, a0))]) H1 → va_D A (ws ++ [(q, .inl (cI, a0))]) → va_S A H0 H1 locs → W p l e R s m args below meth c H1 locs (cells + 1) (slots + N') Q (F0 m (pc + 2) ls (.ref q :: rest))) : W p l e R s m args below meth c H locs cells slots Q (F0 m pc ls (.int n :: rest)) := by
  refine va_newa hx hb harr hty hK hP hD hS hA ha hn hN hbytes hcells hslots hdg ?_
  intro q cA H1 hK1 hP1 hD1 hS1
  have h1 := hra _ _ (hK1.2 tys.length (cA, ty) (by simp)).2
  have h2 := hra _ _ (hK.2 t0 (cI, ty) ht).2
  have e : cA = cI := Option.some.inj (h1.symm.trans h2)
  subst e
  exact kk q H1 hP1 hD1 hS1
theorem gw_newq (hx : p.tables.exec = Jvm.exec) (hb : c.code = cc) {own C : String} {index : Nat} (hown : s.vm.findClass own = some m.cls) (hclink : (Cond.classLink own index C).before args s = true) (hover : va_AO C s) (hK : va_K G vwCl tys s) (hP : va_P G vwCl ws H) (hD : va_D A ws) (hS : va_S A H0 H locs) (hA : ∀ q, H0.size ≤ q → A q) (t0 : Nat) {cT : ClassId} (ht : tys[t0]? = some (cT, .object C))
    {n : Int32} {N' : Nat} (hn : ¬ n < 0) (hN : n.toNatClampNeg = N') (hbytes : N' * 4 ≤ 536870912) (hcells : cells + 1 ≤ R.cells) (hslots : slots + N' ≤ R.slots) (hdg : decode cc pc = .ok (.anewarray index, 3))
    (kk : ∀ (q : Nat) (H1 : Heap), va_P G vwCl (ws ++ [(q, .inl (cT, N', .inr (.inr (.inr (.inr (fun _ => none))))))]) H1 → va_D A (ws ++ [(q, .inl (cT, N', .inr (.inr (.inr (.inr (fun _ => none))))))]) → va_S A H0 H1 locs → W p l e R s m args below meth c H1 locs (cells + 1) (slots + N') Q (F0 m (pc + 3) ls (.ref q :: rest))) : W p l e R s m args below meth c H locs cells slots Q (F0 m pc ls (.int n :: rest)) := by
  refine va_newq hx hb hown hclink hover hK hP hD hS hA hn hN hbytes hcells hslots hdg ?_
  intro q cA H1 hK1 hP1 hD1 hS1
  obtain ⟨k1, m1, -, -, -, h1⟩ := (hK1.2 tys.length (cA, .object C) (by simp)).2
  obtain ⟨k2, m2, -, -, -, h2⟩ := (hK.2 t0 (cT, .object C) ht).2
  have e : cA = cT := Option.some.inj (h1.symm.trans h2)
  subst e
  exact kk q H1 hP1 hD1 hS1
theorem gw_astq {a : Nat} (hx : p.tables.exec = Jvm.exec) (hb : c.code = cc) (hK : va_K G vwCl tys s) (hP : va_P G vwCl ws H) (hD : va_D A ws) (hS : va_S A H0 H locs) (q0 t0 qk ci : Nat) {cA : ClassId} {r : vw_C} {n v : Nat} {vs : List Value} {f : Nat → Option Nat} (k : Nat) {i : Int32} (ha : ws[q0]? = some (a, .inl (cA, n, .inr (.inr (.inr (.inr f)))))) (ht : tys[t0]? = some (cA, .object r.1)) (hv : ws[qk]? = some (v, .inr (ci, vs))) (hc : vwCl[ci]? = some r) (hi : i = nI k) (hk : k < n) (hn : n < 2 ^ 31) (hdg : decode cc pc = .ok (.aastore, 1))
    (kk : ∀ (H1 : Heap) (locs1 : List Loc), va_P G vwCl (ws.set q0 (a, .inl (cA, n, .inr (.inr (.inr (.inr (va_up f k (some v)))))))) H1 → va_D A (ws.set q0 (a, .inl (cA, n, .inr (.inr (.inr (.inr (va_up f k (some v)))))))) → va_S A H0 H1 locs1 → W p l e R s m args below meth c H1 locs1 cells slots Q (F0 m (pc + 1) ls rest)) : W p l e R s m args below meth c H locs cells slots Q (F0 m pc ls (.ref v :: .int i :: .ref a :: rest)) := by
  subst hi
  refine va_astq hx hb hK hP hD hS q0 t0 qk ci ha ht hv hc (vp_in_nI hk hn) hdg ?_
  rw [nI_clamp (by omega)]
  exact kk
theorem gw_callc {S : Type} {post : S → Prop} {w1 : S → va_W} {wc : va_W} {a : Array Value} {mc ms : Nat} (run : va_Run p l e R s m args below meth c H locs cells slots mc ms (F0 m pc ls st0) rest (va_Qv post (gB G w1 (va_A wc H.size)) (va_A wc H.size) a) (va_A wc H.size)) (hP : va_P G vwCl ws H) (hD : va_D A ws) (hS : va_S A H0 H locs) (hA : ∀ q, H0.size ≤ q → A q) (isC isR : List Nat) (hC : isC.map (fun i => ws[i]?) = wc.map some) (hR : isR.map (fun i => ws[i]?) = (gpick ws isR).map some) (hn : va_nd isR = true) (hdis : ∀ i ∈ isR, i ∉ isC)
    (kk : ∀ (u : S) (H1 : Heap) (locs1 : List Loc), post u → va_P G vwCl (gpick ws isR ++ w1 u) H1 → va_D A (gpick ws isR ++ w1 u) → va_S A H0 H1 locs1 → W p l e R s m args below meth c H1 locs1 (cells + mc) (slots + ms) Q (F0 m (pc + 3) ls (rest))) : W p l e R s m args below meth c H locs cells slots Q (F0 m pc ls st0) := by
  have hF := va_free (wc := wc) hD hS hA isC hC
  refine va_callv run hS (fun q _ h => hF q h) hF (fun u t H1 locs1 ht hvm hw hB hz hk hS1 => ?_)
  obtain ⟨hP1, hD1⟩ := hB
  rw [ht] at hP1
  obtain ⟨hP2, hD2⟩ := va_join (wr := gpick ws isR) (w1 := w1 u) hP hD isC isR hC hR hn hdis hk hF hP1 hD1
  exact kk u H1 locs1 hw hP2 hD2 hS1
theorem gPx_blind {G : va_G} {tys : List (ClassId × FieldType)} {av : List Value} {ws : va_W} {sz : Nat} {Ex : State → Prop} (hk : gKeeps Ex) : FrameBlind (va_Pc av (fun U => gP G tys ws sz U ∧ Ex U)) := fun a U g mk q => by
  obtain ⟨q0, ⟨q1, qP, qK, qD, qX⟩, qE⟩ := q
  exact ⟨q0, ⟨q1, qP, va_K.moved (u := U) (U := U.calling g mk a) (Vm.Alike.refl U.vm) qK, qD, gEX_blind qX⟩, hk.1 U g mk a qE⟩
theorem gw_runI {y : MethodName} {bytes : ByteArray} {maxL nL n index k mc ms : Nat} {wd wd' : List Cond} {Qc : Array Value → State → Outcome → State → Prop} {free : Addr → Prop} {Ts : List Cond} {own : String} {b : Nat} {As : List Value} {wc : va_W} {Ex : State → Prop} (F : CallFix p m c cc nL s args Ts own) (hM : Met l y wd (gRc k mc ms) (va_Pc (.ref b :: As) (fun U => gP G tys wc H.size U ∧ Ex U)) Qc mc ms free) (hG : GoodIn Ts wd) (hw : wd = Cond.code y bytes maxL none :: wd') (hini : (Cond.initialized y.cls).before args s = true) (hlk : (Cond.methodLink own index y).before args s = true) (hinm : (Cond.instanceMethod y).before args s = true) (hy1 : y.name = "<init>") (hd : y.cls ≠ "java/lang/invoke/MethodHandle" ∧ y.cls ≠ "java/lang/invoke/VarHandle" ∧ (parseMethodDescriptor y.desc).map (fun d => d.parameters.length) = some n) (hR : k + 1 ≤ R.frames ∧ 8 + (maxL + 11) + 100 * k ≤ R.locals) (hK : va_K G vwCl tys s) (hP : va_P G vwCl ws H) (hD : va_D A ws) (isC : List Nat) (hC1 : isC.filterMap (fun i => ws[i]?) = wc) (hC2 : va_nd isC = true) (hC : isC.map (fun i => ws[i]?) = wc.map some) (hkE : gKeeps Ex) (hE : Ex s) (hX : gEX G A s) (hS : va_S A s.heap H locs) (hA : ∀ q, s.heap.size ≤ q → A q) (hn : As.length = n) (hsize : ls.size = nL) (hst : st0 = As.reverse ++ .ref b :: rest) (hW : (rest.map fun v => v.category).sum ≤ 8) (hdg : decode cc pc = .ok (.invokespecial index, 3)) (hf : cells + mc ≤ R.cells ∧ slots + ms ≤ R.slots) : va_Run p l e R s m args below meth c H locs cells slots mc ms (F0 m pc ls st0) rest (Qc (Value.ref b :: As).toArray) free :=
  have hPc := hP.sub isC hC1
  have hDc := hD.sub isC hC2 hC
  va_runI F hM (cwI n F.2.2.2.2 hG hw rfl rfl hini hlk hinm hy1 hd hR) ⟨gPx_blind hkE, fun U hU hWm => ⟨rfl, ⟨by rw [hU], by rw [hU]; exact hPc, va_K.moved hWm.alike hK, hDc.weaken (fun _ _ _ _ => trivial), gEX_step hX hS hWm hU (va_free hD hS hA isC hC)⟩, hkE.2 s U hWm hE⟩⟩ rfl hn hsize hst (lv_room hW) hdg hf
theorem gw_runIN {y : MethodName} {bytes : ByteArray} {maxL nL n index k mc ms : Nat} {wd wd' : List Cond} {Qc : Array Value → State → Outcome → State → Prop} {free : Addr → Prop} {Ts : List Cond} {own host : String} {b : Nat} {As : List Value} {wc : va_W} {Ex : State → Prop} (F : CallFix p m c cc nL s args Ts own) (hM : Met l y wd (gRc k mc ms) (va_Pc (.ref b :: As) (fun U => gP G tys wc H.size U ∧ Ex U)) Qc mc ms free) (hG : GoodIn Ts wd) (hw : wd = Cond.code y bytes maxL none :: wd') (hini : (Cond.initialized y.cls).before args s = true) (hlk : va_Nw (.methodLinkNest own index y host) s) (hinm : (Cond.instanceMethod y).before args s = true) (hy1 : y.name = "<init>") (hd : y.cls ≠ "java/lang/invoke/MethodHandle" ∧ y.cls ≠ "java/lang/invoke/VarHandle" ∧ (parseMethodDescriptor y.desc).map (fun d => d.parameters.length) = some n) (hR : k + 1 ≤ R.frames ∧ 8 + (maxL + 11) + 100 * k ≤ R.locals) (hK : va_K G vwCl tys s) (hP : va_P G vwCl ws H) (hD : va_D A ws) (isC : List Nat) (hC1 : isC.filterMap (fun i => ws[i]?) = wc) (hC2 : va_nd isC = true) (hC : isC.map (fun i => ws[i]?) = wc.map some) (hkE : gKeeps Ex) (hE : Ex s) (hX : gEX G A s) (hS : va_S A s.heap H locs) (hA : ∀ q, s.heap.size ≤ q → A q) (hn : As.length = n) (hsize : ls.size = nL) (hst : st0 = As.reverse ++ .ref b :: rest) (hW : (rest.map fun v => v.category).sum ≤ 8) (hdg : decode cc pc = .ok (.invokespecial index, 3)) (hf : cells + mc ≤ R.cells ∧ slots + ms ≤ R.slots) : va_Run p l e R s m args below meth c H locs cells slots mc ms (F0 m pc ls st0) rest (Qc (Value.ref b :: As).toArray) free :=
  have hPc := hP.sub isC hC1
  have hDc := hD.sub isC hC2 hC
  va_runIN F hM ⟨va_cnB n F.2.2.2.2 hG hw rfl rfl hlk hini hd hR, hy1, hinm⟩ ⟨gPx_blind hkE, fun U hU hWm => ⟨rfl, ⟨by rw [hU], by rw [hU]; exact hPc, va_K.moved hWm.alike hK, hDc.weaken (fun _ _ _ _ => trivial), gEX_step hX hS hWm hU (va_free hD hS hA isC hC)⟩, hkE.2 s U hWm hE⟩⟩ rfl hn hsize hst (lv_room hW) hdg hf
end GC
theorem gK_true : gKeeps (fun _ => True) := ⟨fun _ _ _ _ h => h, fun _ _ _ h => h⟩
theorem gK_and {E F : State → Prop} (hE : gKeeps E) (hF : gKeeps F) : gKeeps (fun U => E U ∧ F U) := ⟨fun U g mk a h => ⟨hE.1 U g mk a h.1, hF.1 U g mk a h.2⟩, fun s U hW h => ⟨hE.2 s U hW h.1, hF.2 s U hW h.2⟩⟩
theorem gK_nest (own : String) (ix : Nat) (y : MethodName) (host : String) : gKeeps (va_Nw (.methodLinkNest own ix y host)) := ⟨fun U g mk a h => va_Nw.same rfl (u := U) (U := U.calling g mk a) rfl h, fun _ _ hW h => va_Nw.warmM hW h⟩
theorem gK_over (C : String) : gKeeps (va_AO C) := ⟨fun U g mk a h => va_AO.moved (u := U) (U := U.calling g mk a) (Vm.Alike.refl U.vm) h, fun _ _ hW h => va_AO.moved hW.alike h⟩
