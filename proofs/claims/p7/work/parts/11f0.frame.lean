/-! what an answer keeps, where there is one -/
def pk {α : Type} (x : Option α) (Q : α → Prop) : Prop := ∀ a, x = some a → Q a
theorem pk_none {α : Type} {Q : α → Prop} : pk none Q := fun _ h => by cases h
theorem pk_some {α : Type} {a : α} {Q : α → Prop} (h : Q a) : pk (some a) Q := fun b e => by cases e; exact h
theorem pk_if {α : Type} {c : Prop} [Decidable c] {x y : Option α} {Q : α → Prop} (h1 : c → pk x Q) (h2 : ¬ c → pk y Q) : pk (if c then x else y) Q := by
  by_cases hc : c
  · rw [if_pos hc]; exact h1 hc
  · rw [if_neg hc]; exact h2 hc
theorem pk_chk {α : Type} {c : Prop} [Decidable c] {x : Option α} {Q : α → Prop} (h : c → pk x Q) : pk (if c then x else none) Q := pk_if h (fun _ => pk_none)
theorem pk_ob2 {α β γ : Type} {x : Option (α × β)} {g : α → β → Option γ} {P : α × β → Prop} {Q : γ → Prop} (h : pk x P) (k : ∀ a b, P (a, b) → pk (g a b) Q) : pk (ob2 x g) Q := by
  intro y e
  obtain ⟨a, b, e1, e2⟩ := ob2_some e
  exact k a b (h _ e1) y e2
theorem pk_ob1 {α γ : Type} {x : Option α} {g : α → Option γ} {P : α → Prop} {Q : γ → Prop} (h : pk x P) (k : ∀ a, P a → pk (g a) Q) : pk (ob1 x g) Q := by
  intro y e
  obtain ⟨a, e1, e2⟩ := ob1_some e
  exact k a (h _ e1) y e2
theorem pk_obf {α γ : Type} {x : Option α} {g : α → Option γ} {Q : γ → Prop} (k : ∀ a, pk (g a) Q) : pk (ob1 x g) Q := pk_ob1 (P := fun _ => True) (fun _ _ => trivial) (fun a _ => k a)
theorem pk_mono {α : Type} {x : Option α} {P Q : α → Prop} (h : pk x P) (k : ∀ a, P a → Q a) : pk x Q := fun a e => k a (h a e)
abbrev CL : Type := List (Nat × Nat × Nat)
def Fr (S : CL) (h c : HS) : Prop := (∀ o k : Nat, (0, o, k) ∉ S → eI c o k = eI h o k) ∧ (∀ o k : Nat, (1, o, k) ∉ S → eA c o k = eA h o k) ∧ (∀ o k : Nat, (2, o, k) ∉ S → eL c o k = eL h o k) ∧ (∀ o k : Nat, (3, o, k) ∉ S → eJ c o k = eJ h o k)
theorem Fr_refl (S : CL) (h : HS) : Fr S h h := ⟨fun _ _ _ => rfl, fun _ _ _ => rfl, fun _ _ _ => rfl, fun _ _ _ => rfl⟩
theorem Fr_trans {S : CL} {a b c : HS} (x : Fr S a b) (y : Fr S b c) : Fr S a c := ⟨fun o k h => (y.1 o k h).trans (x.1 o k h), fun o k h => (y.2.1 o k h).trans (x.2.1 o k h), fun o k h => (y.2.2.1 o k h).trans (x.2.2.1 o k h), fun o k h => (y.2.2.2 o k h).trans (x.2.2.2 o k h)⟩
theorem Fr_mono {S T : CL} {a b : HS} (m : ∀ x ∈ S, x ∈ T) (x : Fr S a b) : Fr T a b := ⟨fun o k h => x.1 o k (fun i => h (m _ i)), fun o k h => x.2.1 o k (fun i => h (m _ i)), fun o k h => x.2.2.1 o k (fun i => h (m _ i)), fun o k h => x.2.2.2 o k (fun i => h (m _ i))⟩
theorem Fr_sI {S : CL} {h c : HS} {o k : Nat} {v : Int32} (m : (0, o, k) ∈ S) (x : Fr S h c) : Fr S h (sI c o k v) := by
  refine ⟨fun o' k' n => ?_, x.2.1, x.2.2.1, x.2.2.2⟩
  rw [← x.1 o' k' n]
  show (if o' = o then (if k' = k then v else c.1 o' k') else c.1 o' k') = c.1 o' k'
  by_cases h1 : o' = o
  · by_cases h2 : k' = k
    · subst h1; subst h2; exact absurd m n
    · rw [if_pos h1, if_neg h2]
  · rw [if_neg h1]
theorem Fr_sA {S : CL} {h c : HS} {o k : Nat} {v : Nat → Int32} (m : (1, o, k) ∈ S) (x : Fr S h c) : Fr S h (sA c o k v) := by
  refine ⟨x.1, fun o' k' n => ?_, x.2.2.1, x.2.2.2⟩
  rw [← x.2.1 o' k' n]
  show (if o' = o then (if k' = k then v else c.2.1 o' k') else c.2.1 o' k') = c.2.1 o' k'
  by_cases h1 : o' = o
  · by_cases h2 : k' = k
    · subst h1; subst h2; exact absurd m n
    · rw [if_pos h1, if_neg h2]
  · rw [if_neg h1]
theorem Fr_sL {S : CL} {h c : HS} {o k : Nat} {v : Int64} (m : (2, o, k) ∈ S) (x : Fr S h c) : Fr S h (sL c o k v) := by
  refine ⟨x.1, x.2.1, fun o' k' n => ?_, x.2.2.2⟩
  rw [← x.2.2.1 o' k' n]
  show (if o' = o then (if k' = k then v else c.2.2.1 o' k') else c.2.2.1 o' k') = c.2.2.1 o' k'
  by_cases h1 : o' = o
  · by_cases h2 : k' = k
    · subst h1; subst h2; exact absurd m n
    · rw [if_pos h1, if_neg h2]
  · rw [if_neg h1]
theorem Fr_sJ {S : CL} {h c : HS} {o k : Nat} {v : Nat → Int64} (m : (3, o, k) ∈ S) (x : Fr S h c) : Fr S h (sJ c o k v) := by
  refine ⟨x.1, x.2.1, x.2.2.1, fun o' k' n => ?_⟩
  rw [← x.2.2.2 o' k' n]
  show (if o' = o then (if k' = k then v else c.2.2.2 o' k') else c.2.2.2 o' k') = c.2.2.2 o' k'
  by_cases h1 : o' = o
  · by_cases h2 : k' = k
    · subst h1; subst h2; exact absurd m n
    · rw [if_pos h1, if_neg h2]
  · rw [if_neg h1]
