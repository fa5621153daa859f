/-! calls over a whole world -/
theorem gzf {v : Int32} (h : v = 0 ∨ v = 1) : fits .boolean (.int v) = true := by rcases h with rfl | rfl <;> rfl
section GX
variable {p : Program} {l : Launch} {e : Env} {R : Room} {s : State} {m : MethodId} {args : Array Value} {below : List Frame} {meth : Method} {c : Code} {H : Heap} {locs : List Loc} {cells slots : Nat} {Q : State → Prop} {pc : Nat} {ls : Array Slot} {rest st0 : List Value} {G : va_G} {tys : List (ClassId × FieldType)} {ws : va_W} {A : Nat → Prop} {H0 : Heap} {cc : ByteArray}
theorem gx_free (hD : va_D A ws) (hS : va_S A H0 H locs) (hA : ∀ q, H0.size ≤ q → A q) : ∀ q, va_A ws H.size q → A q := fun q h => h.elim (fun ⟨k, e, hk⟩ => hD.2 k _ hk) (fun h => hA q (Nat.le_trans hS.1 h))
theorem gx_runV {y : MethodName} {bytes : ByteArray} {maxL nL n index k ci N : Nat} {ret : Option FieldType} {wd wd' : List Cond} {Qc : Array Value → State → Outcome → State → Prop} {free : Addr → Prop} {Ts : List Cond} {own C : String} {b : Nat} {As : List Value} {fs : List Value} {T : u_T} (F : CallFix p m c cc nL s args Ts own) (hM : Met l y wd (gRm k) (va_Pc (.ref b :: As) (gP G tys ws H.size)) Qc 0 0 free) (hG : GoodIn Ts (wsV own index C y wd)) (hw : wd = Cond.code y bytes maxL ret :: wd') (hd : y.cls = C ∧ y.cls ≠ "java/lang/invoke/MethodHandle" ∧ y.cls ≠ "java/lang/invoke/VarHandle" ∧ (parseMethodDescriptor y.desc).map (fun d => d.parameters.length) = some n) (hR : k + 1 ≤ R.frames ∧ 8 + (maxL + 11) + 100 * k ≤ R.locals) (hK : va_K G vwCl tys s) (hP : va_P G vwCl ws H) (hD : va_D A ws) (q0 : Nat) (he : ws[q0]? = some (b, .inr (ci, fs))) (hc : vwCl[ci]? = some (C, T, N)) (hn : As.length = n) (hsize : ls.size = nL) (hst : st0 = As.reverse ++ .ref b :: rest) (hW : (rest.map fun v => v.category).sum ≤ 8) (hdg : decode cc pc = .ok (.invokevirtual index, 3)) (hf : cells ≤ R.cells ∧ slots ≤ R.slots) : va_Run p l e R s m args below meth c H locs cells slots 0 0 (F0 m pc ls st0) rest (Qc (Value.ref b :: As).toArray) free :=
  va_runV F hM (cwV n F.2.2.2.2 hG hw rfl rfl hd hR) ⟨gP_blind, va_recv hK hP hc he, fun U hU hWm => ⟨rfl, by rw [hU], by rw [hU]; exact hP, va_K.moved hWm.alike hK, hD.weaken (fun _ _ _ _ => trivial)⟩⟩ rfl hn hsize hst (lv_room hW) hdg hf
theorem gx_runS {y : MethodName} {bytes : ByteArray} {maxL nL n index k : Nat} {ret : Option FieldType} {wd wd' : List Cond} {Qc : Array Value → State → Outcome → State → Prop} {free : Addr → Prop} {Ts : List Cond} {own : String} {As : List Value} (F : CallFix p m c cc nL s args Ts own) (hM : Met l y wd (gRm k) (va_Pc As (gP G tys ws H.size)) Qc 0 0 free) (hG : GoodIn Ts (wsS own index y wd)) (hw : wd = Cond.code y bytes maxL ret :: wd') (hd : y.cls = own ∧ y.cls ≠ "java/lang/invoke/MethodHandle" ∧ y.cls ≠ "java/lang/invoke/VarHandle" ∧ (parseMethodDescriptor y.desc).map (fun d => d.parameters.length) = some n) (hR : k + 1 ≤ R.frames ∧ 8 + (maxL + 11) + 100 * k ≤ R.locals) (hK : va_K G vwCl tys s) (hP : va_P G vwCl ws H) (hD : va_D A ws) (hn : As.length = n) (hsize : ls.size = nL) (hst : st0 = As.reverse ++ rest) (hW : (rest.map fun v => v.category).sum ≤ 8) (hdg : decode cc pc = .ok (.invokestatic index, 3)) (hf : cells ≤ R.cells ∧ slots ≤ R.slots) : va_Run p l e R s m args below meth c H locs cells slots 0 0 (F0 m pc ls st0) rest (Qc As.toArray) free :=
  va_runS F hM (cwS n F.2.2.2.2 hG hw rfl rfl hd hR) ⟨gP_blind, fun U hU hWm => ⟨rfl, by rw [hU], by rw [hU]; exact hP, va_K.moved hWm.alike hK, hD.weaken (fun _ _ _ _ => trivial)⟩⟩ rfl hn hsize hst (lv_room hW) hdg hf
theorem gx_nilP : va_P G vwCl [] H := fun k q h => by simp at h
theorem gx_nilD : va_D A [] := ⟨fun i j p q h => by simp at h, fun k q h => by simp at h⟩
theorem gx_runS0 {y : MethodName} {bytes : ByteArray} {maxL nL n index k : Nat} {ret : Option FieldType} {wd wd' : List Cond} {Qc : Array Value → State → Outcome → State → Prop} {free : Addr → Prop} {Ts : List Cond} {own : String} {As : List Value} (F : CallFix p m c cc nL s args Ts own) (hM : Met l y wd (gRm k) (va_Pc As (gP G tys [] H.size)) Qc 0 0 free) (hG : GoodIn Ts (wsS own index y wd)) (hw : wd = Cond.code y bytes maxL ret :: wd') (hd : y.cls = own ∧ y.cls ≠ "java/lang/invoke/MethodHandle" ∧ y.cls ≠ "java/lang/invoke/VarHandle" ∧ (parseMethodDescriptor y.desc).map (fun d => d.parameters.length) = some n) (hR : k + 1 ≤ R.frames ∧ 8 + (maxL + 11) + 100 * k ≤ R.locals) (hK : va_K G vwCl tys s) (hn : As.length = n) (hsize : ls.size = nL) (hst : st0 = As.reverse ++ rest) (hW : (rest.map fun v => v.category).sum ≤ 8) (hdg : decode cc pc = .ok (.invokestatic index, 3)) (hf : cells ≤ R.cells ∧ slots ≤ R.slots) : va_Run p l e R s m args below meth c H locs cells slots 0 0 (F0 m pc ls st0) rest (Qc As.toArray) free :=
  gx_runS F hM hG hw hd hR hK gx_nilP (gx_nilD (A := fun _ => True)) hn hsize hst hW hdg hf
theorem gx_calli {S : Type} {post : Int32 → S → Prop} {w1 : S → va_W} {a : Array Value} (run : va_Run p l e R s m args below meth c H locs cells slots 0 0 (F0 m pc ls st0) rest (va_Qi post (gB G w1 (va_A ws H.size)) (va_A ws H.size) a) (va_A ws H.size)) (hP : va_P G vwCl ws H) (hD : va_D A ws) (hS : va_S A H0 H locs) (hA : ∀ q, H0.size ≤ q → A q)
    (kk : ∀ (r : Int32) (u : S) (H1 : Heap) (locs1 : List Loc), post r u → va_P G vwCl (w1 u) H1 → va_D A (w1 u) → va_S A H0 H1 locs1 → W p l e R s m args below meth c H1 locs1 cells slots Q (F0 m (pc + 3) ls (.int r :: rest))) : W p l e R s m args below meth c H locs cells slots Q (F0 m pc ls st0) := by
  have hF := gx_free hD hS hA
  refine va_calli run hS (fun q _ h => hF q h) hF (fun r u t H1 locs1 ht hvm hw hB hz hk hS1 => ?_)
  obtain ⟨hP1, hD1⟩ := hB
  rw [ht] at hP1
  exact kk r u H1 locs1 hw hP1 (hD1.weaken (fun _ _ _ h => hF _ h)) hS1
theorem gx_calli0 {S : Type} {post : Int32 → S → Prop} {w1 : S → va_W} {a : Array Value} (run : va_Run p l e R s m args below meth c H locs cells slots 0 0 (F0 m pc ls st0) rest (va_Qi post (gB G w1 (va_A [] H.size)) (va_A [] H.size) a) (va_A [] H.size)) (hP : va_P G vwCl ws H) (hD : va_D A ws) (hS : va_S A H0 H locs) (hA : ∀ q, H0.size ≤ q → A q)
    (kk : ∀ (r : Int32) (u : S) (H1 : Heap) (locs1 : List Loc), post r u → va_P G vwCl ws H1 → va_D A ws → va_S A H0 H1 locs1 → W p l e R s m args below meth c H1 locs1 cells slots Q (F0 m (pc + 3) ls (.int r :: rest))) : W p l e R s m args below meth c H locs cells slots Q (F0 m pc ls st0) := by
  have hF := gx_free (gx_nilD (A := A)) hS hA
  refine va_calli run hS (fun q _ h => hF q h) hF (fun r u t H1 locs1 ht hvm hw hB hz hk hS1 => ?_)
  refine kk r u H1 locs1 hw (hP.kept (fun k x hx => hk x.1 ((hP k x hx).lt) ?_)) hD hS1
  intro h
  rcases h with ⟨k, e, h⟩ | h
  · simp at h
  · exact absurd ((hP _ x hx).lt) (Nat.not_lt.mpr h)
theorem gx_calll {S : Type} {post : Int64 → S → Prop} {w1 : S → va_W} {a : Array Value} (run : va_Run p l e R s m args below meth c H locs cells slots 0 0 (F0 m pc ls st0) rest (va_Ql post (gB G w1 (va_A ws H.size)) (va_A ws H.size) a) (va_A ws H.size)) (hP : va_P G vwCl ws H) (hD : va_D A ws) (hS : va_S A H0 H locs) (hA : ∀ q, H0.size ≤ q → A q)
    (kk : ∀ (r : Int64) (u : S) (H1 : Heap) (locs1 : List Loc), post r u → va_P G vwCl (w1 u) H1 → va_D A (w1 u) → va_S A H0 H1 locs1 → W p l e R s m args below meth c H1 locs1 cells slots Q (F0 m (pc + 3) ls (.long r :: rest))) : W p l e R s m args below meth c H locs cells slots Q (F0 m pc ls st0) := by
  have hF := gx_free hD hS hA
  refine va_calll run hS (fun q _ h => hF q h) hF (fun r u t H1 locs1 ht hvm hw hB hz hk hS1 => ?_)
  obtain ⟨hP1, hD1⟩ := hB
  rw [ht] at hP1
  exact kk r u H1 locs1 hw hP1 (hD1.weaken (fun _ _ _ h => hF _ h)) hS1
theorem gx_calll0 {S : Type} {post : Int64 → S → Prop} {w1 : S → va_W} {a : Array Value} (run : va_Run p l e R s m args below meth c H locs cells slots 0 0 (F0 m pc ls st0) rest (va_Ql post (gB G w1 (va_A [] H.size)) (va_A [] H.size) a) (va_A [] H.size)) (hP : va_P G vwCl ws H) (hD : va_D A ws) (hS : va_S A H0 H locs) (hA : ∀ q, H0.size ≤ q → A q)
    (kk : ∀ (r : Int64) (u : S) (H1 : Heap) (locs1 : List Loc), post r u → va_P G vwCl ws H1 → va_D A ws → va_S A H0 H1 locs1 → W p l e R s m args below meth c H1 locs1 cells slots Q (F0 m (pc + 3) ls (.long r :: rest))) : W p l e R s m args below meth c H locs cells slots Q (F0 m pc ls st0) := by
  have hF := gx_free (gx_nilD (A := A)) hS hA
  refine va_calll run hS (fun q _ h => hF q h) hF (fun r u t H1 locs1 ht hvm hw hB hz hk hS1 => ?_)
  refine kk r u H1 locs1 hw (hP.kept (fun k x hx => hk x.1 ((hP k x hx).lt) ?_)) hD hS1
  intro h
  rcases h with ⟨k, e, h⟩ | h
  · simp at h
  · exact absurd ((hP _ x hx).lt) (Nat.not_lt.mpr h)
theorem gx_callv {S : Type} {post : S → Prop} {w1 : S → va_W} {a : Array Value} (run : va_Run p l e R s m args below meth c H locs cells slots 0 0 (F0 m pc ls st0) rest (va_Qv post (gB G w1 (va_A ws H.size)) (va_A ws H.size) a) (va_A ws H.size)) (hP : va_P G vwCl ws H) (hD : va_D A ws) (hS : va_S A H0 H locs) (hA : ∀ q, H0.size ≤ q → A q)
    (kk : ∀ (u : S) (H1 : Heap) (locs1 : List Loc), post u → va_P G vwCl (w1 u) H1 → va_D A (w1 u) → va_S A H0 H1 locs1 → W p l e R s m args below meth c H1 locs1 cells slots Q (F0 m (pc + 3) ls (rest))) : W p l e R s m args below meth c H locs cells slots Q (F0 m pc ls st0) := by
  have hF := gx_free hD hS hA
  refine va_callv run hS (fun q _ h => hF q h) hF (fun u t H1 locs1 ht hvm hw hB hz hk hS1 => ?_)
  obtain ⟨hP1, hD1⟩ := hB
  rw [ht] at hP1
  exact kk u H1 locs1 hw hP1 (hD1.weaken (fun _ _ _ h => hF _ h)) hS1
theorem gx_callv0 {S : Type} {post : S → Prop} {w1 : S → va_W} {a : Array Value} (run : va_Run p l e R s m args below meth c H locs cells slots 0 0 (F0 m pc ls st0) rest (va_Qv post (gB G w1 (va_A [] H.size)) (va_A [] H.size) a) (va_A [] H.size)) (hP : va_P G vwCl ws H) (hD : va_D A ws) (hS : va_S A H0 H locs) (hA : ∀ q, H0.size ≤ q → A q)
    (kk : ∀ (u : S) (H1 : Heap) (locs1 : List Loc), post u → va_P G vwCl ws H1 → va_D A ws → va_S A H0 H1 locs1 → W p l e R s m args below meth c H1 locs1 cells slots Q (F0 m (pc + 3) ls (rest))) : W p l e R s m args below meth c H locs cells slots Q (F0 m pc ls st0) := by
  have hF := gx_free (gx_nilD (A := A)) hS hA
  refine va_callv run hS (fun q _ h => hF q h) hF (fun u t H1 locs1 ht hvm hw hB hz hk hS1 => ?_)
  refine kk u H1 locs1 hw (hP.kept (fun k x hx => hk x.1 ((hP k x hx).lt) ?_)) hD hS1
  intro h
  rcases h with ⟨k, e, h⟩ | h
  · simp at h
  · exact absurd ((hP _ x hx).lt) (Nat.not_lt.mpr h)
end GX
