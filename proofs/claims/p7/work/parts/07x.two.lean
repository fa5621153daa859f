/-! two worlds side by side: a call over the first leaves the second as it was -/
section G2
variable {p : Program} {l : Launch} {e : Env} {R : Room} {s : State} {m : MethodId} {args : Array Value} {below : List Frame} {meth : Method} {c : Code} {H : Heap} {locs : List Loc} {cells slots : Nat} {Q : State → Prop} {pc : Nat} {ls : Array Slot} {rest st0 : List Value} {G : va_G} {wa wb : va_W} {A : Nat → Prop} {H0 : Heap}
abbrev gApart (wa wb : va_W) : Prop := ∀ (i j : Nat) (p q : Nat × va_E), wa[i]? = some p → wb[j]? = some q → p.1 ≠ q.1
theorem gApart.swap {wa wb : va_W} (h : gApart wa wb) : gApart wb wa := fun i j p q hi hj e => h j i q p hj hi e.symm
theorem gx2_calli {S : Type} {post : Int32 → S → Prop} {w1 : S → va_W} {a : Array Value} (run : va_Run p l e R s m args below meth c H locs cells slots 0 0 (F0 m pc ls st0) rest (va_Qi post (gB G w1 (va_A wa H.size)) (va_A wa H.size) a) (va_A wa H.size)) (hPa : va_P G vwCl wa H) (hDa : va_D A wa) (hPb : va_P G vwCl wb H) (hab : gApart wa wb) (hS : va_S A H0 H locs) (hA : ∀ q, H0.size ≤ q → A q)
    (kk : ∀ (r : Int32) (u : S) (H1 : Heap) (locs1 : List Loc), post r u → va_P G vwCl (w1 u) H1 → va_D A (w1 u) → va_P G vwCl wb H1 → gApart (w1 u) wb → va_S A H0 H1 locs1 → W p l e R s m args below meth c H1 locs1 cells slots Q (F0 m (pc + 3) ls (.int r :: rest))) : W p l e R s m args below meth c H locs cells slots Q (F0 m pc ls st0) := by
  have hF := gx_free hDa hS hA
  refine va_calli run hS (fun q _ h => hF q h) hF (fun r u t H1 locs1 ht hvm hw hB hz hk hS1 => ?_)
  obtain ⟨hP1, hD1⟩ := hB
  rw [ht] at hP1
  have hne : ∀ (k : Nat) (x : Nat × va_E), wb[k]? = some x → ¬ va_A wa H.size x.1 := fun k x hx h => h.elim (fun ⟨i, e, hi⟩ => hab i k _ _ hi hx rfl) (fun h => absurd ((hPb k x hx).lt) (Nat.not_lt.mpr h))
  exact kk r u H1 locs1 hw hP1 (hD1.weaken (fun _ _ _ h => hF _ h)) (hPb.kept (fun k x hx => hk x.1 ((hPb k x hx).lt) (hne k x hx))) (fun i j p q hi hj e => hne j q hj (e ▸ hD1.2 i p hi)) hS1
theorem gx2_calll {S : Type} {post : Int64 → S → Prop} {w1 : S → va_W} {a : Array Value} (run : va_Run p l e R s m args below meth c H locs cells slots 0 0 (F0 m pc ls st0) rest (va_Ql post (gB G w1 (va_A wa H.size)) (va_A wa H.size) a) (va_A wa H.size)) (hPa : va_P G vwCl wa H) (hDa : va_D A wa) (hPb : va_P G vwCl wb H) (hab : gApart wa wb) (hS : va_S A H0 H locs) (hA : ∀ q, H0.size ≤ q → A q)
    (kk : ∀ (r : Int64) (u : S) (H1 : Heap) (locs1 : List Loc), post r u → va_P G vwCl (w1 u) H1 → va_D A (w1 u) → va_P G vwCl wb H1 → gApart (w1 u) wb → va_S A H0 H1 locs1 → W p l e R s m args below meth c H1 locs1 cells slots Q (F0 m (pc + 3) ls (.long r :: rest))) : W p l e R s m args below meth c H locs cells slots Q (F0 m pc ls st0) := by
  have hF := gx_free hDa hS hA
  refine va_calll run hS (fun q _ h => hF q h) hF (fun r u t H1 locs1 ht hvm hw hB hz hk hS1 => ?_)
  obtain ⟨hP1, hD1⟩ := hB
  rw [ht] at hP1
  have hne : ∀ (k : Nat) (x : Nat × va_E), wb[k]? = some x → ¬ va_A wa H.size x.1 := fun k x hx h => h.elim (fun ⟨i, e, hi⟩ => hab i k _ _ hi hx rfl) (fun h => absurd ((hPb k x hx).lt) (Nat.not_lt.mpr h))
  exact kk r u H1 locs1 hw hP1 (hD1.weaken (fun _ _ _ h => hF _ h)) (hPb.kept (fun k x hx => hk x.1 ((hPb k x hx).lt) (hne k x hx))) (fun i j p q hi hj e => hne j q hj (e ▸ hD1.2 i p hi)) hS1
theorem gx2_callv {S : Type} {post : S → Prop} {w1 : S → va_W} {a : Array Value} (run : va_Run p l e R s m args below meth c H locs cells slots 0 0 (F0 m pc ls st0) rest (va_Qv post (gB G w1 (va_A wa H.size)) (va_A wa H.size) a) (va_A wa H.size)) (hPa : va_P G vwCl wa H) (hDa : va_D A wa) (hPb : va_P G vwCl wb H) (hab : gApart wa wb) (hS : va_S A H0 H locs) (hA : ∀ q, H0.size ≤ q → A q)
    (kk : ∀ (u : S) (H1 : Heap) (locs1 : List Loc), post u → va_P G vwCl (w1 u) H1 → va_D A (w1 u) → va_P G vwCl wb H1 → gApart (w1 u) wb → va_S A H0 H1 locs1 → W p l e R s m args below meth c H1 locs1 cells slots Q (F0 m (pc + 3) ls (rest))) : W p l e R s m args below meth c H locs cells slots Q (F0 m pc ls st0) := by
  have hF := gx_free hDa hS hA
  refine va_callv run hS (fun q _ h => hF q h) hF (fun u t H1 locs1 ht hvm hw hB hz hk hS1 => ?_)
  obtain ⟨hP1, hD1⟩ := hB
  rw [ht] at hP1
  have hne : ∀ (k : Nat) (x : Nat × va_E), wb[k]? = some x → ¬ va_A wa H.size x.1 := fun k x hx h => h.elim (fun ⟨i, e, hi⟩ => hab i k _ _ hi hx rfl) (fun h => absurd ((hPb k x hx).lt) (Nat.not_lt.mpr h))
  exact kk u H1 locs1 hw hP1 (hD1.weaken (fun _ _ _ h => hF _ h)) (hPb.kept (fun k x hx => hk x.1 ((hPb k x hx).lt) (hne k x hx))) (fun i j p q hi hj e => hne j q hj (e ▸ hD1.2 i p hi)) hS1
end G2
