/-! a new text beside those that stand -/
theorem TXF_ktx {o t u : Nat} {S : CL} {h h' g g' : HS} (x : TXF o u h g) (f : Fr S h h') (n : ∀ y ∈ [(0, o, 1), (0, o, 5), (1, o, 0), (1, o, 2), (1, o, 3), (1, o, 4)], y ∉ S) (k : KTX t g g') (ne : ¬ u = t) : TXF o u h' g' := by
  obtain ⟨k1, k2, k3⟩ := k
  have G6 : eA g' 0 6 u = eA g 0 6 u := k1 u ne
  have G7 : ∀ c : Nat, c < 24 → eA g' 0 7 (24 * u + c) = eA g 0 7 (24 * u + c) ∧ eA g' 0 8 (24 * u + c) = eA g 0 8 (24 * u + c) ∧ eA g' 0 9 (24 * u + c) = eA g 0 9 (24 * u + c) ∧ eA g' 0 10 (24 * u + c) = eA g 0 10 (24 * u + c) ∧ eA g' 0 11 (24 * u + c) = eA g 0 11 (24 * u + c) := fun c hc => k2 _ (by omega)
  have G12 : ∀ i : Nat, i < 400 → eA g' 0 12 (400 * u + i) = eA g 0 12 (400 * u + i) ∧ eA g' 0 13 (400 * u + i) = eA g 0 13 (400 * u + i) := fun i hi => k3 _ (by omega)
  obtain ⟨x1, x2, x3, x4, x5⟩ := x
  unfold TXF
  rw [f.1 o 1 (n _ (by simp)), f.1 o 5 (n _ (by simp)), f.2.1 o 3 (n _ (by simp)), G6]
  refine ⟨x1, x2, x3, fun c hc => ?_, fun w hw => ?_⟩
  · have c24 : c < 24 := by omega
    obtain ⟨g7, g8, g9, g10, g11⟩ := G7 c c24
    obtain ⟨y1, y2, y3, y4, y5⟩ := x4 c hc
    unfold CLF
    rw [g7, g9, g10, g11, f.2.1 o 0 (n _ (by simp))]
    refine ⟨y1, y2, y3, fun q => ?_, y5⟩
    obtain ⟨z1, z2, z3, z4, z5, z6⟩ := y4 q
    unfold LWF
    rw [f.1 o 5 (n _ (by simp)), f.2.1 o 2 (n _ (by simp)), f.2.1 o 3 (n _ (by simp)), f.2.1 o 4 (n _ (by simp)), g8]
    refine ⟨z1, z2, z3, z4, fun i i1 i2 => ?_, ?_⟩
    · rw [show i + (400 * u + c) = 400 * u + (i + c) by omega, (G12 (i + c) (by omega)).1, (G12 (i + c) (by omega)).2]
      have z := z5 i i1 i2
      rw [show i + (400 * u + c) = 400 * u + (i + c) by omega] at z
      exact z
    · rw [show ∀ m : Nat, m + (400 * u + c) = 400 * u + (m + c) from fun m => by omega] at z6 ⊢
      rw [(G12 _ (by omega)).1]
      exact z6
  · rcases x5 w hw with ⟨z1, z2⟩ | ⟨z1, c, z2, z3⟩
    · refine Or.inl ⟨z1, fun c hc => ?_⟩
      rw [(G7 c (by omega)).1]
      exact z2 c hc
    · refine Or.inr ⟨z1, c, z2, ?_⟩
      rw [(G7 c (by omega)).1]
      exact z3
theorem TXS_mono {h g : HS} {m n : Int} (x : TXS h g n) (l : m ≤ n) : TXS h g m := ⟨fun q => x.1 (by omega), fun q => x.2.1 (by omega), fun q => x.2.2.1 (by omega), fun q => x.2.2.2 (by omega)⟩
