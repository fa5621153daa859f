/-! what stands outside the cells: statics, the text constant, a nest mate's link; none of them in A -/
def gPat : Nat → Int32 := fun j => ([0, 12, 21, 102, 120, 201, 210, 112, 121, 211, 122, 212, 221] : List Int32).getD j 0
def gCnt : Nat → Int32 := fun j => ([0, 1, 3, 13] : List Int32).getD j 0
def gWb : List Int32 := [98, 117, 116, 99, 104, 101, 114, 32, 114, 101, 97, 100, 101, 114, 32, 105, 110, 107, 32, 99, 111, 100, 101, 32, 102, 105, 108, 108, 32, 115, 101, 110, 100, 32, 102, 97, 116, 116, 101, 110, 32, 112, 97, 115, 115, 32, 119, 105, 116, 104, 32, 116, 111, 32, 111, 114, 32, 97, 110, 100, 32, 110, 111, 116, 32, 103, 111, 111, 115, 101, 32, 119, 101, 105, 103, 104, 116, 32, 102, 101, 97, 116, 104, 101, 114, 115, 32, 108, 101, 116, 116, 101, 114, 32, 112, 97, 114, 116, 32, 100, 97, 121, 32, 109, 97, 114, 107, 101, 116, 32, 103, 114, 101, 101, 100, 32, 101, 121, 101, 115, 32]
def gWt : String := "butcher reader ink code fill send fatten pass with to or and not goose weight feathers letter part day market greed eyes "
def gEX (G : va_G) (A : Nat → Prop) (U : State) : Prop :=
  va_Nw (.methodLinkNest RX0 32 yX8_halvesOf "GooseLetters") U ∧
  (va_Z "GooseLetters$Search" "PATTERNS" "[I" (.ref (G.2 99 0)) A U U.heap ∧ va_T .int (G.2 99 0) 13 (fun j => .int (gPat j)) A U U.heap) ∧
  (va_Z "GooseLetters$Search" "PATTERN_COUNTS" "[I" (.ref (G.2 99 1)) A U U.heap ∧ va_T .int (G.2 99 1) 4 (fun j => .int (gCnt j)) A U U.heap) ∧
  (vk_R RX7 65 gWt (G.2 99 2) U ∧ vk_S 1 [121] [gWb] (fun _ => G.2 99 2) (fun _ => G.2 99 3) A U U.heap) ∧
  va_Z "java/lang/String" "COMPACT_STRINGS" "Z" (.int 1) A U U.heap ∧
  va_Zq "jdk/internal/util/Preconditions" "SIOOBE_FORMATTER" "Ljava/util/function/BiFunction;" A U U.heap
theorem gEX_step {G : va_G} {A B : Nat → Prop} {s U : State} {H : Heap} {locs : List Loc} (h : gEX G A s) (hS : va_S A s.heap H locs) (hW : s.WarmedH U.vm) (hU : U.heap = H) (hA : ∀ q, B q → A q) : gEX G B U := by
  subst hU
  obtain ⟨h1, ⟨h2, h3⟩, ⟨h4, h5⟩, ⟨h6, h7⟩, h8, h9⟩ := h
  exact ⟨va_Nw.warmM hW h1, ⟨((h2.kept hS.2.1).moved hW.alike).narrow hA, ((h3.kept hS.2.1).moved hW.alike).narrow hA⟩, ⟨((h4.kept hS.2.1).moved hW.alike).narrow hA, ((h5.kept hS.2.1).moved hW.alike).narrow hA⟩, ⟨vk_R.warm hW h6, ((h7.kept hS.2.1).moved hW.alike).narrow hA⟩, ((h8.kept hS.2.1).moved hW.alike).narrow hA, ((h9.kept hS.2.1).moved hW.alike).narrow hA⟩
theorem gEX_blind {G : va_G} {A : Nat → Prop} {U : State} {g : JFrame} {mk : MethodId} {a : Array Value} (h : gEX G A U) : gEX G A (U.calling g mk a) := by
  have hv : U.vm.Alike (U.calling g mk a).vm := Vm.Alike.refl U.vm
  obtain ⟨h1, ⟨h2, h3⟩, ⟨h4, h5⟩, ⟨h6, h7⟩, h8, h9⟩ := h
  exact ⟨va_Nw.same rfl (u := U) (U := U.calling g mk a) rfl h1, ⟨h2.moved hv, h3.moved hv⟩, ⟨h4.moved hv, h5.moved hv⟩, ⟨vk_R.same (u := U) (U := U.calling g mk a) rfl h6, h7.moved hv⟩, h8.moved hv, h9.moved hv⟩
