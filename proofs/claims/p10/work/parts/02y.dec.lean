/-! a row an opcode: what decode answers, out of the bytes alone -/
noncomputable def ubl (l : List UInt8) (p : Nat) : Nat := List.rec (motive := fun _ => Nat → Nat) (fun _ => 256) (fun x _ ih p => Nat.rec (motive := fun _ => Nat) x.toNat (fun q _ => ih q) p) l p
theorem ubl_eq (l : List UInt8) : ∀ p : Nat, ubl l p = (match l[p]? with
  | some x => x.toNat
  | none => 256) := by
  induction l with
  | nil => intro p; rw [List.getElem?_nil]; rfl
  | cons x t ih =>
    intro p
    cases p with
    | zero => rw [List.getElem?_cons_zero]; rfl
    | succ q => rw [List.getElem?_cons_succ]; exact ih q
noncomputable def ub (c : ByteArray) (p : Nat) : Nat := ubl c.data.toList p
theorem ub_u1 {c : ByteArray} {p b : Nat} (h : ub c p = b) (hb : b < 256) : (Reader.u1 : Decoder Nat) c p = .ok (b, p + 1) := by
  have e : (Reader.u1 : Decoder Nat) c p = (if h : p < c.size then .ok (c[p].toNat, p + 1) else .error (HasTruncated.truncated p)) := by
    show (do if h : p < c.size then do set (p + 1); Pure.pure c[p].toNat else MonadExcept.throw (HasTruncated.truncated p) : Decoder Nat) c p = _
    by_cases hi : p < c.size
    · rw [dif_pos hi, dif_pos hi]; rfl
    · rw [dif_neg hi, dif_neg hi]; rfl
  unfold ub at h
  rw [ubl_eq] at h
  cases hx : c.data.toList[p]? with
  | none => rw [hx] at h; have h : 256 = b := h; omega
  | some x =>
    rw [hx] at h
    have h : x.toNat = b := h
    obtain ⟨h1, h2⟩ := List.getElem?_eq_some_iff.mp hx
    have hs : p < c.size := by simpa using h1
    have hc : c[p] = x := h2
    rw [e, dif_pos hs, hc, h]
theorem dk_bind {α β : Type} {r : Decoder α} {f : α → Decoder β} {c : ByteArray} {p s : Nat} {a : α} {y : Except DecodeError (β × Nat)} (h : r c p = .ok (a, s)) (g : f a c s = y) : (r >>= f) c p = y := by
  show (do let (a, s) ← r c p; f a c s : Except DecodeError (β × Nat)) = y
  rw [h]; exact g
theorem dk_map {α β : Type} {r : Decoder α} {f : α → β} {c : ByteArray} {p s : Nat} {a : α} (h : r c p = .ok (a, s)) : (f <$> r) c p = .ok (f a, s) := by
  show (do let (a, s) ← r c p; .ok (f a, s) : Except DecodeError (β × Nat)) = _
  rw [h]; rfl
theorem dk_of {c : ByteArray} {p n : Nat} {i : Instr} (h : Decoder.instr p c p = .ok (i, p + n)) : decode c p = .ok (i, n) := by
  show (do let (i, s) ← Decoder.instr p c p; .ok (i, s - p) : Except DecodeError (Instr × Nat)) = _
  rw [h]
  show Except.ok (i, p + n - p) = _
  rw [Nat.add_sub_cancel_left]
noncomputable def ck0 (c : ByteArray) (p k : Nat) : Bool := Nat.beq (ub c p) k
noncomputable def ck1 (c : ByteArray) (p k a : Nat) : Bool := Nat.beq (ub c p) k && (Nat.blt a 256 && Nat.beq (ub c (p + 1)) a)
noncomputable def ck1s (c : ByteArray) (p k : Nat) (v : Int) : Bool := Nat.beq (ub c p) k && (Nat.blt (ub c (p + 1)) 256 && decide (Reader.signed 8 (ub c (p + 1)) = v))
noncomputable def ck2 (c : ByteArray) (p k n : Nat) : Bool := Nat.beq (ub c p) k && (Nat.blt (ub c (p + 1)) 256 && (Nat.blt (ub c (p + 2)) 256 && Nat.beq (ub c (p + 1) * 256 + ub c (p + 2)) n))
noncomputable def ck2s (c : ByteArray) (p k : Nat) (v : Int) : Bool := Nat.beq (ub c p) k && (Nat.blt (ub c (p + 1)) 256 && (Nat.blt (ub c (p + 2)) 256 && decide (Reader.signed 16 (ub c (p + 1) * 256 + ub c (p + 2)) = v)))
noncomputable def cki (c : ByteArray) (p a : Nat) (v : Int) : Bool := ck1 c p 132 a && (Nat.blt (ub c (p + 2)) 256 && decide (Reader.signed 8 (ub c (p + 2)) = v))
theorem ck_and {a b : Bool} (h : (a && b) = true) : a = true ∧ b = true := by cases a <;> cases b <;> first | exact ⟨rfl, rfl⟩ | cases h
theorem ck_lt {a b : Nat} (h : Nat.blt a b = true) : a < b := Nat.le_of_ble_eq_true h
theorem ck0_u {c : ByteArray} {p k : Nat} (h : ck0 c p k = true) (hk : k < 256) : (Reader.u1 : Decoder Nat) c p = .ok (k, p + 1) := ub_u1 (Nat.eq_of_beq_eq_true h) hk
theorem ck1_u {c : ByteArray} {p k a : Nat} (h : ck1 c p k a = true) (hk : k < 256) : (Reader.u1 : Decoder Nat) c p = .ok (k, p + 1) ∧ (Reader.u1 : Decoder Nat) c (p + 1) = .ok (a, p + 2) := by
  obtain ⟨h1, h2⟩ := ck_and h
  obtain ⟨h2, h3⟩ := ck_and h2
  exact ⟨ck0_u h1 hk, ub_u1 (Nat.eq_of_beq_eq_true h3) (ck_lt h2)⟩
theorem ck1s_u {c : ByteArray} {p k : Nat} {v : Int} (h : ck1s c p k v = true) (hk : k < 256) : (Reader.u1 : Decoder Nat) c p = .ok (k, p + 1) ∧ (Reader.s1 : Decoder Int) c (p + 1) = .ok (v, p + 2) := by
  obtain ⟨h1, h2⟩ := ck_and h
  obtain ⟨h2, h3⟩ := ck_and h2
  have h3 : Reader.signed 8 (ub c (p + 1)) = v := of_decide_eq_true h3
  refine ⟨ck0_u h1 hk, ?_⟩
  have e := dk_map (f := Reader.signed 8) (ub_u1 (c := c) (p := p + 1) rfl (ck_lt h2))
  rw [h3] at e
  exact e
theorem ck2_w {c : ByteArray} {p : Nat} (h1 : Nat.blt (ub c (p + 1)) 256 = true) (h2 : Nat.blt (ub c (p + 2)) 256 = true) : (Reader.u2 : Decoder Nat) c (p + 1) = .ok (ub c (p + 1) * 256 + ub c (p + 2), p + 3) := dk_bind (ub_u1 rfl (ck_lt h1)) (dk_bind (ub_u1 (c := c) (p := p + 2) rfl (ck_lt h2)) rfl)
theorem ck2_u {c : ByteArray} {p k n : Nat} (h : ck2 c p k n = true) (hk : k < 256) : (Reader.u1 : Decoder Nat) c p = .ok (k, p + 1) ∧ (Reader.u2 : Decoder Nat) c (p + 1) = .ok (n, p + 3) := by
  obtain ⟨h1, h2⟩ := ck_and h
  obtain ⟨h2, h3⟩ := ck_and h2
  obtain ⟨h3, h4⟩ := ck_and h3
  have e := ck2_w h2 h3
  rw [Nat.eq_of_beq_eq_true h4] at e
  exact ⟨ck0_u h1 hk, e⟩
theorem ck2s_u {c : ByteArray} {p k : Nat} {v : Int} (h : ck2s c p k v = true) (hk : k < 256) : (Reader.u1 : Decoder Nat) c p = .ok (k, p + 1) ∧ (Reader.s2 : Decoder Int) c (p + 1) = .ok (v, p + 3) := by
  obtain ⟨h1, h2⟩ := ck_and h
  obtain ⟨h2, h3⟩ := ck_and h2
  obtain ⟨h3, h4⟩ := ck_and h3
  have h4 : Reader.signed 16 (ub c (p + 1) * 256 + ub c (p + 2)) = v := of_decide_eq_true h4
  have e := dk_map (f := Reader.signed 16) (ck2_w h2 h3)
  rw [h4] at e
  exact ⟨ck0_u h1 hk, e⟩
theorem dk_1 {c : ByteArray} {p : Nat} (h : ck0 c p 1 = true) : decode c p = .ok (.aconst_null, 1) := by
  refine dk_of ?_
  unfold Decoder.instr
  exact dk_bind (ck0_u h (by decide)) rfl
theorem dk_2 {c : ByteArray} {p : Nat} (h : ck0 c p 2 = true) : decode c p = .ok (.iconst (-1), 1) := by
  refine dk_of ?_
  unfold Decoder.instr
  exact dk_bind (ck0_u h (by decide)) rfl
theorem dk_3 {c : ByteArray} {p : Nat} (h : ck0 c p 3 = true) : decode c p = .ok (.iconst 0, 1) := by
  refine dk_of ?_
  unfold Decoder.instr
  exact dk_bind (ck0_u h (by decide)) rfl
theorem dk_188_4 {c : ByteArray} {p : Nat} (h : ck1 c p 188 4 = true) : decode c p = .ok (.newarray .boolean, 2) := by
  refine dk_of ?_
  unfold Decoder.instr
  exact dk_bind (ck1_u h (by decide)).1 (dk_bind (ck1_u h (by decide)).2 rfl)
theorem dk_4 {c : ByteArray} {p : Nat} (h : ck0 c p 4 = true) : decode c p = .ok (.iconst 1, 1) := by
  refine dk_of ?_
  unfold Decoder.instr
  exact dk_bind (ck0_u h (by decide)) rfl
theorem dk_5 {c : ByteArray} {p : Nat} (h : ck0 c p 5 = true) : decode c p = .ok (.iconst 2, 1) := by
  refine dk_of ?_
  unfold Decoder.instr
  exact dk_bind (ck0_u h (by decide)) rfl
theorem dk_6 {c : ByteArray} {p : Nat} (h : ck0 c p 6 = true) : decode c p = .ok (.iconst 3, 1) := by
  refine dk_of ?_
  unfold Decoder.instr
  exact dk_bind (ck0_u h (by decide)) rfl
theorem dk_7 {c : ByteArray} {p : Nat} (h : ck0 c p 7 = true) : decode c p = .ok (.iconst 4, 1) := by
  refine dk_of ?_
  unfold Decoder.instr
  exact dk_bind (ck0_u h (by decide)) rfl
theorem dk_188_8 {c : ByteArray} {p : Nat} (h : ck1 c p 188 8 = true) : decode c p = .ok (.newarray .byte, 2) := by
  refine dk_of ?_
  unfold Decoder.instr
  exact dk_bind (ck1_u h (by decide)).1 (dk_bind (ck1_u h (by decide)).2 rfl)
theorem dk_8 {c : ByteArray} {p : Nat} (h : ck0 c p 8 = true) : decode c p = .ok (.iconst 5, 1) := by
  refine dk_of ?_
  unfold Decoder.instr
  exact dk_bind (ck0_u h (by decide)) rfl
theorem dk_9 {c : ByteArray} {p : Nat} (h : ck0 c p 9 = true) : decode c p = .ok (.lconst 0, 1) := by
  refine dk_of ?_
  unfold Decoder.instr
  exact dk_bind (ck0_u h (by decide)) rfl
theorem dk_188_10 {c : ByteArray} {p : Nat} (h : ck1 c p 188 10 = true) : decode c p = .ok (.newarray .int, 2) := by
  refine dk_of ?_
  unfold Decoder.instr
  exact dk_bind (ck1_u h (by decide)).1 (dk_bind (ck1_u h (by decide)).2 rfl)
theorem dk_10 {c : ByteArray} {p : Nat} (h : ck0 c p 10 = true) : decode c p = .ok (.lconst 1, 1) := by
  refine dk_of ?_
  unfold Decoder.instr
  exact dk_bind (ck0_u h (by decide)) rfl
theorem dk_188_11 {c : ByteArray} {p : Nat} (h : ck1 c p 188 11 = true) : decode c p = .ok (.newarray .long, 2) := by
  refine dk_of ?_
  unfold Decoder.instr
  exact dk_bind (ck1_u h (by decide)).1 (dk_bind (ck1_u h (by decide)).2 rfl)
theorem dk_16 {c : ByteArray} {p : Nat} {v : Int} (h : ck1s c p 16 v = true) : decode c p = .ok (.bipush v, 2) := by
  refine dk_of ?_
  unfold Decoder.instr
  exact dk_bind (ck1s_u h (by decide)).1 (dk_bind (ck1s_u h (by decide)).2 rfl)
theorem dk_17 {c : ByteArray} {p : Nat} {v : Int} (h : ck2s c p 17 v = true) : decode c p = .ok (.sipush v, 3) := by
  refine dk_of ?_
  unfold Decoder.instr
  exact dk_bind (ck2s_u h (by decide)).1 (dk_bind (ck2s_u h (by decide)).2 rfl)
theorem dk_18 {c : ByteArray} {p n : Nat} (h : ck1 c p 18 n = true) : decode c p = .ok (.ldc n, 2) := by
  refine dk_of ?_
  unfold Decoder.instr
  exact dk_bind (ck1_u h (by decide)).1 (dk_bind (ck1_u h (by decide)).2 rfl)
theorem dk_20 {c : ByteArray} {p n : Nat} (h : ck2 c p 20 n = true) : decode c p = .ok (.ldc2_w n, 3) := by
  refine dk_of ?_
  unfold Decoder.instr
  exact dk_bind (ck2_u h (by decide)).1 (dk_bind (ck2_u h (by decide)).2 rfl)
theorem dk_21 {c : ByteArray} {p n : Nat} (h : ck1 c p 21 n = true) : decode c p = .ok (.iload n, 2) := by
  refine dk_of ?_
  unfold Decoder.instr
  exact dk_bind (ck1_u h (by decide)).1 (dk_bind (ck1_u h (by decide)).2 rfl)
theorem dk_22 {c : ByteArray} {p n : Nat} (h : ck1 c p 22 n = true) : decode c p = .ok (.lload n, 2) := by
  refine dk_of ?_
  unfold Decoder.instr
  exact dk_bind (ck1_u h (by decide)).1 (dk_bind (ck1_u h (by decide)).2 rfl)
theorem dk_26 {c : ByteArray} {p : Nat} (h : ck0 c p 26 = true) : decode c p = .ok (.iload_n 0, 1) := by
  refine dk_of ?_
  unfold Decoder.instr
  exact dk_bind (ck0_u h (by decide)) rfl
theorem dk_27 {c : ByteArray} {p : Nat} (h : ck0 c p 27 = true) : decode c p = .ok (.iload_n 1, 1) := by
  refine dk_of ?_
  unfold Decoder.instr
  exact dk_bind (ck0_u h (by decide)) rfl
theorem dk_28 {c : ByteArray} {p : Nat} (h : ck0 c p 28 = true) : decode c p = .ok (.iload_n 2, 1) := by
  refine dk_of ?_
  unfold Decoder.instr
  exact dk_bind (ck0_u h (by decide)) rfl
theorem dk_29 {c : ByteArray} {p : Nat} (h : ck0 c p 29 = true) : decode c p = .ok (.iload_n 3, 1) := by
  refine dk_of ?_
  unfold Decoder.instr
  exact dk_bind (ck0_u h (by decide)) rfl
theorem dk_30 {c : ByteArray} {p : Nat} (h : ck0 c p 30 = true) : decode c p = .ok (.lload_n 0, 1) := by
  refine dk_of ?_
  unfold Decoder.instr
  exact dk_bind (ck0_u h (by decide)) rfl
theorem dk_31 {c : ByteArray} {p : Nat} (h : ck0 c p 31 = true) : decode c p = .ok (.lload_n 1, 1) := by
  refine dk_of ?_
  unfold Decoder.instr
  exact dk_bind (ck0_u h (by decide)) rfl
theorem dk_32 {c : ByteArray} {p : Nat} (h : ck0 c p 32 = true) : decode c p = .ok (.lload_n 2, 1) := by
  refine dk_of ?_
  unfold Decoder.instr
  exact dk_bind (ck0_u h (by decide)) rfl
theorem dk_33 {c : ByteArray} {p : Nat} (h : ck0 c p 33 = true) : decode c p = .ok (.lload_n 3, 1) := by
  refine dk_of ?_
  unfold Decoder.instr
  exact dk_bind (ck0_u h (by decide)) rfl
theorem dk_42 {c : ByteArray} {p : Nat} (h : ck0 c p 42 = true) : decode c p = .ok (.aload_n 0, 1) := by
  refine dk_of ?_
  unfold Decoder.instr
  exact dk_bind (ck0_u h (by decide)) rfl
theorem dk_43 {c : ByteArray} {p : Nat} (h : ck0 c p 43 = true) : decode c p = .ok (.aload_n 1, 1) := by
  refine dk_of ?_
  unfold Decoder.instr
  exact dk_bind (ck0_u h (by decide)) rfl
theorem dk_44 {c : ByteArray} {p : Nat} (h : ck0 c p 44 = true) : decode c p = .ok (.aload_n 2, 1) := by
  refine dk_of ?_
  unfold Decoder.instr
  exact dk_bind (ck0_u h (by decide)) rfl
theorem dk_45 {c : ByteArray} {p : Nat} (h : ck0 c p 45 = true) : decode c p = .ok (.aload_n 3, 1) := by
  refine dk_of ?_
  unfold Decoder.instr
  exact dk_bind (ck0_u h (by decide)) rfl
theorem dk_46 {c : ByteArray} {p : Nat} (h : ck0 c p 46 = true) : decode c p = .ok (.iaload, 1) := by
  refine dk_of ?_
  unfold Decoder.instr
  exact dk_bind (ck0_u h (by decide)) rfl
theorem dk_47 {c : ByteArray} {p : Nat} (h : ck0 c p 47 = true) : decode c p = .ok (.laload, 1) := by
  refine dk_of ?_
  unfold Decoder.instr
  exact dk_bind (ck0_u h (by decide)) rfl
theorem dk_50 {c : ByteArray} {p : Nat} (h : ck0 c p 50 = true) : decode c p = .ok (.aaload, 1) := by
  refine dk_of ?_
  unfold Decoder.instr
  exact dk_bind (ck0_u h (by decide)) rfl
theorem dk_51 {c : ByteArray} {p : Nat} (h : ck0 c p 51 = true) : decode c p = .ok (.baload, 1) := by
  refine dk_of ?_
  unfold Decoder.instr
  exact dk_bind (ck0_u h (by decide)) rfl
theorem dk_54 {c : ByteArray} {p n : Nat} (h : ck1 c p 54 n = true) : decode c p = .ok (.istore n, 2) := by
  refine dk_of ?_
  unfold Decoder.instr
  exact dk_bind (ck1_u h (by decide)).1 (dk_bind (ck1_u h (by decide)).2 rfl)
theorem dk_55 {c : ByteArray} {p n : Nat} (h : ck1 c p 55 n = true) : decode c p = .ok (.lstore n, 2) := by
  refine dk_of ?_
  unfold Decoder.instr
  exact dk_bind (ck1_u h (by decide)).1 (dk_bind (ck1_u h (by decide)).2 rfl)
theorem dk_60 {c : ByteArray} {p : Nat} (h : ck0 c p 60 = true) : decode c p = .ok (.istore_n 1, 1) := by
  refine dk_of ?_
  unfold Decoder.instr
  exact dk_bind (ck0_u h (by decide)) rfl
theorem dk_61 {c : ByteArray} {p : Nat} (h : ck0 c p 61 = true) : decode c p = .ok (.istore_n 2, 1) := by
  refine dk_of ?_
  unfold Decoder.instr
  exact dk_bind (ck0_u h (by decide)) rfl
theorem dk_62 {c : ByteArray} {p : Nat} (h : ck0 c p 62 = true) : decode c p = .ok (.istore_n 3, 1) := by
  refine dk_of ?_
  unfold Decoder.instr
  exact dk_bind (ck0_u h (by decide)) rfl
theorem dk_64 {c : ByteArray} {p : Nat} (h : ck0 c p 64 = true) : decode c p = .ok (.lstore_n 1, 1) := by
  refine dk_of ?_
  unfold Decoder.instr
  exact dk_bind (ck0_u h (by decide)) rfl
theorem dk_65 {c : ByteArray} {p : Nat} (h : ck0 c p 65 = true) : decode c p = .ok (.lstore_n 2, 1) := by
  refine dk_of ?_
  unfold Decoder.instr
  exact dk_bind (ck0_u h (by decide)) rfl
theorem dk_66 {c : ByteArray} {p : Nat} (h : ck0 c p 66 = true) : decode c p = .ok (.lstore_n 3, 1) := by
  refine dk_of ?_
  unfold Decoder.instr
  exact dk_bind (ck0_u h (by decide)) rfl
theorem dk_76 {c : ByteArray} {p : Nat} (h : ck0 c p 76 = true) : decode c p = .ok (.astore_n 1, 1) := by
  refine dk_of ?_
  unfold Decoder.instr
  exact dk_bind (ck0_u h (by decide)) rfl
theorem dk_77 {c : ByteArray} {p : Nat} (h : ck0 c p 77 = true) : decode c p = .ok (.astore_n 2, 1) := by
  refine dk_of ?_
  unfold Decoder.instr
  exact dk_bind (ck0_u h (by decide)) rfl
theorem dk_78 {c : ByteArray} {p : Nat} (h : ck0 c p 78 = true) : decode c p = .ok (.astore_n 3, 1) := by
  refine dk_of ?_
  unfold Decoder.instr
  exact dk_bind (ck0_u h (by decide)) rfl
theorem dk_79 {c : ByteArray} {p : Nat} (h : ck0 c p 79 = true) : decode c p = .ok (.iastore, 1) := by
  refine dk_of ?_
  unfold Decoder.instr
  exact dk_bind (ck0_u h (by decide)) rfl
theorem dk_80 {c : ByteArray} {p : Nat} (h : ck0 c p 80 = true) : decode c p = .ok (.lastore, 1) := by
  refine dk_of ?_
  unfold Decoder.instr
  exact dk_bind (ck0_u h (by decide)) rfl
theorem dk_83 {c : ByteArray} {p : Nat} (h : ck0 c p 83 = true) : decode c p = .ok (.aastore, 1) := by
  refine dk_of ?_
  unfold Decoder.instr
  exact dk_bind (ck0_u h (by decide)) rfl
theorem dk_84 {c : ByteArray} {p : Nat} (h : ck0 c p 84 = true) : decode c p = .ok (.bastore, 1) := by
  refine dk_of ?_
  unfold Decoder.instr
  exact dk_bind (ck0_u h (by decide)) rfl
theorem dk_87 {c : ByteArray} {p : Nat} (h : ck0 c p 87 = true) : decode c p = .ok (.pop, 1) := by
  refine dk_of ?_
  unfold Decoder.instr
  exact dk_bind (ck0_u h (by decide)) rfl
theorem dk_88 {c : ByteArray} {p : Nat} (h : ck0 c p 88 = true) : decode c p = .ok (.pop2, 1) := by
  refine dk_of ?_
  unfold Decoder.instr
  exact dk_bind (ck0_u h (by decide)) rfl
theorem dk_89 {c : ByteArray} {p : Nat} (h : ck0 c p 89 = true) : decode c p = .ok (.dup, 1) := by
  refine dk_of ?_
  unfold Decoder.instr
  exact dk_bind (ck0_u h (by decide)) rfl
theorem dk_92 {c : ByteArray} {p : Nat} (h : ck0 c p 92 = true) : decode c p = .ok (.dup2, 1) := by
  refine dk_of ?_
  unfold Decoder.instr
  exact dk_bind (ck0_u h (by decide)) rfl
theorem dk_96 {c : ByteArray} {p : Nat} (h : ck0 c p 96 = true) : decode c p = .ok (.iadd, 1) := by
  refine dk_of ?_
  unfold Decoder.instr
  exact dk_bind (ck0_u h (by decide)) rfl
theorem dk_97 {c : ByteArray} {p : Nat} (h : ck0 c p 97 = true) : decode c p = .ok (.ladd, 1) := by
  refine dk_of ?_
  unfold Decoder.instr
  exact dk_bind (ck0_u h (by decide)) rfl
theorem dk_100 {c : ByteArray} {p : Nat} (h : ck0 c p 100 = true) : decode c p = .ok (.isub, 1) := by
  refine dk_of ?_
  unfold Decoder.instr
  exact dk_bind (ck0_u h (by decide)) rfl
theorem dk_101 {c : ByteArray} {p : Nat} (h : ck0 c p 101 = true) : decode c p = .ok (.lsub, 1) := by
  refine dk_of ?_
  unfold Decoder.instr
  exact dk_bind (ck0_u h (by decide)) rfl
theorem dk_104 {c : ByteArray} {p : Nat} (h : ck0 c p 104 = true) : decode c p = .ok (.imul, 1) := by
  refine dk_of ?_
  unfold Decoder.instr
  exact dk_bind (ck0_u h (by decide)) rfl
theorem dk_105 {c : ByteArray} {p : Nat} (h : ck0 c p 105 = true) : decode c p = .ok (.lmul, 1) := by
  refine dk_of ?_
  unfold Decoder.instr
  exact dk_bind (ck0_u h (by decide)) rfl
theorem dk_108 {c : ByteArray} {p : Nat} (h : ck0 c p 108 = true) : decode c p = .ok (.idiv, 1) := by
  refine dk_of ?_
  unfold Decoder.instr
  exact dk_bind (ck0_u h (by decide)) rfl
theorem dk_109 {c : ByteArray} {p : Nat} (h : ck0 c p 109 = true) : decode c p = .ok (.ldiv, 1) := by
  refine dk_of ?_
  unfold Decoder.instr
  exact dk_bind (ck0_u h (by decide)) rfl
theorem dk_112 {c : ByteArray} {p : Nat} (h : ck0 c p 112 = true) : decode c p = .ok (.irem, 1) := by
  refine dk_of ?_
  unfold Decoder.instr
  exact dk_bind (ck0_u h (by decide)) rfl
theorem dk_113 {c : ByteArray} {p : Nat} (h : ck0 c p 113 = true) : decode c p = .ok (.lrem, 1) := by
  refine dk_of ?_
  unfold Decoder.instr
  exact dk_bind (ck0_u h (by decide)) rfl
theorem dk_116 {c : ByteArray} {p : Nat} (h : ck0 c p 116 = true) : decode c p = .ok (.ineg, 1) := by
  refine dk_of ?_
  unfold Decoder.instr
  exact dk_bind (ck0_u h (by decide)) rfl
theorem dk_117 {c : ByteArray} {p : Nat} (h : ck0 c p 117 = true) : decode c p = .ok (.lneg, 1) := by
  refine dk_of ?_
  unfold Decoder.instr
  exact dk_bind (ck0_u h (by decide)) rfl
theorem dk_122 {c : ByteArray} {p : Nat} (h : ck0 c p 122 = true) : decode c p = .ok (.ishr, 1) := by
  refine dk_of ?_
  unfold Decoder.instr
  exact dk_bind (ck0_u h (by decide)) rfl
theorem dk_126 {c : ByteArray} {p : Nat} (h : ck0 c p 126 = true) : decode c p = .ok (.iand, 1) := by
  refine dk_of ?_
  unfold Decoder.instr
  exact dk_bind (ck0_u h (by decide)) rfl
theorem dk_127 {c : ByteArray} {p : Nat} (h : ck0 c p 127 = true) : decode c p = .ok (.land, 1) := by
  refine dk_of ?_
  unfold Decoder.instr
  exact dk_bind (ck0_u h (by decide)) rfl
theorem dk_128 {c : ByteArray} {p : Nat} (h : ck0 c p 128 = true) : decode c p = .ok (.ior, 1) := by
  refine dk_of ?_
  unfold Decoder.instr
  exact dk_bind (ck0_u h (by decide)) rfl
theorem dk_129 {c : ByteArray} {p : Nat} (h : ck0 c p 129 = true) : decode c p = .ok (.lor, 1) := by
  refine dk_of ?_
  unfold Decoder.instr
  exact dk_bind (ck0_u h (by decide)) rfl
theorem dk_132 {c : ByteArray} {p a : Nat} {v : Int} (h : cki c p a v = true) : decode c p = .ok (.iinc a v, 3) := by
  obtain ⟨h1, h2⟩ := ck_and h
  obtain ⟨h2, h3⟩ := ck_and h2
  have h3 : Reader.signed 8 (ub c (p + 2)) = v := of_decide_eq_true h3
  have e := dk_map (f := Reader.signed 8) (ub_u1 (c := c) (p := p + 2) rfl (ck_lt h2))
  rw [h3] at e
  refine dk_of ?_
  unfold Decoder.instr
  exact dk_bind (ck1_u h1 (by decide)).1 (dk_bind (ck1_u h1 (by decide)).2 (dk_bind e rfl))
theorem dk_133 {c : ByteArray} {p : Nat} (h : ck0 c p 133 = true) : decode c p = .ok (.i2l, 1) := by
  refine dk_of ?_
  unfold Decoder.instr
  exact dk_bind (ck0_u h (by decide)) rfl
theorem dk_136 {c : ByteArray} {p : Nat} (h : ck0 c p 136 = true) : decode c p = .ok (.l2i, 1) := by
  refine dk_of ?_
  unfold Decoder.instr
  exact dk_bind (ck0_u h (by decide)) rfl
theorem dk_145 {c : ByteArray} {p : Nat} (h : ck0 c p 145 = true) : decode c p = .ok (.i2b, 1) := by
  refine dk_of ?_
  unfold Decoder.instr
  exact dk_bind (ck0_u h (by decide)) rfl
theorem dk_146 {c : ByteArray} {p : Nat} (h : ck0 c p 146 = true) : decode c p = .ok (.i2c, 1) := by
  refine dk_of ?_
  unfold Decoder.instr
  exact dk_bind (ck0_u h (by decide)) rfl
theorem dk_148 {c : ByteArray} {p : Nat} (h : ck0 c p 148 = true) : decode c p = .ok (.lcmp, 1) := by
  refine dk_of ?_
  unfold Decoder.instr
  exact dk_bind (ck0_u h (by decide)) rfl
theorem dk_153 {c : ByteArray} {p : Nat} {v : Int} (h : ck2s c p 153 v = true) : decode c p = .ok (.ifCond .eq v, 3) := by
  refine dk_of ?_
  unfold Decoder.instr
  exact dk_bind (ck2s_u h (by decide)).1 (dk_bind (ck2s_u h (by decide)).2 rfl)
theorem dk_154 {c : ByteArray} {p : Nat} {v : Int} (h : ck2s c p 154 v = true) : decode c p = .ok (.ifCond .ne v, 3) := by
  refine dk_of ?_
  unfold Decoder.instr
  exact dk_bind (ck2s_u h (by decide)).1 (dk_bind (ck2s_u h (by decide)).2 rfl)
theorem dk_155 {c : ByteArray} {p : Nat} {v : Int} (h : ck2s c p 155 v = true) : decode c p = .ok (.ifCond .lt v, 3) := by
  refine dk_of ?_
  unfold Decoder.instr
  exact dk_bind (ck2s_u h (by decide)).1 (dk_bind (ck2s_u h (by decide)).2 rfl)
theorem dk_156 {c : ByteArray} {p : Nat} {v : Int} (h : ck2s c p 156 v = true) : decode c p = .ok (.ifCond .ge v, 3) := by
  refine dk_of ?_
  unfold Decoder.instr
  exact dk_bind (ck2s_u h (by decide)).1 (dk_bind (ck2s_u h (by decide)).2 rfl)
theorem dk_157 {c : ByteArray} {p : Nat} {v : Int} (h : ck2s c p 157 v = true) : decode c p = .ok (.ifCond .gt v, 3) := by
  refine dk_of ?_
  unfold Decoder.instr
  exact dk_bind (ck2s_u h (by decide)).1 (dk_bind (ck2s_u h (by decide)).2 rfl)
theorem dk_158 {c : ByteArray} {p : Nat} {v : Int} (h : ck2s c p 158 v = true) : decode c p = .ok (.ifCond .le v, 3) := by
  refine dk_of ?_
  unfold Decoder.instr
  exact dk_bind (ck2s_u h (by decide)).1 (dk_bind (ck2s_u h (by decide)).2 rfl)
theorem dk_159 {c : ByteArray} {p : Nat} {v : Int} (h : ck2s c p 159 v = true) : decode c p = .ok (.if_icmp .eq v, 3) := by
  refine dk_of ?_
  unfold Decoder.instr
  exact dk_bind (ck2s_u h (by decide)).1 (dk_bind (ck2s_u h (by decide)).2 rfl)
theorem dk_160 {c : ByteArray} {p : Nat} {v : Int} (h : ck2s c p 160 v = true) : decode c p = .ok (.if_icmp .ne v, 3) := by
  refine dk_of ?_
  unfold Decoder.instr
  exact dk_bind (ck2s_u h (by decide)).1 (dk_bind (ck2s_u h (by decide)).2 rfl)
theorem dk_161 {c : ByteArray} {p : Nat} {v : Int} (h : ck2s c p 161 v = true) : decode c p = .ok (.if_icmp .lt v, 3) := by
  refine dk_of ?_
  unfold Decoder.instr
  exact dk_bind (ck2s_u h (by decide)).1 (dk_bind (ck2s_u h (by decide)).2 rfl)
theorem dk_162 {c : ByteArray} {p : Nat} {v : Int} (h : ck2s c p 162 v = true) : decode c p = .ok (.if_icmp .ge v, 3) := by
  refine dk_of ?_
  unfold Decoder.instr
  exact dk_bind (ck2s_u h (by decide)).1 (dk_bind (ck2s_u h (by decide)).2 rfl)
theorem dk_163 {c : ByteArray} {p : Nat} {v : Int} (h : ck2s c p 163 v = true) : decode c p = .ok (.if_icmp .gt v, 3) := by
  refine dk_of ?_
  unfold Decoder.instr
  exact dk_bind (ck2s_u h (by decide)).1 (dk_bind (ck2s_u h (by decide)).2 rfl)
theorem dk_164 {c : ByteArray} {p : Nat} {v : Int} (h : ck2s c p 164 v = true) : decode c p = .ok (.if_icmp .le v, 3) := by
  refine dk_of ?_
  unfold Decoder.instr
  exact dk_bind (ck2s_u h (by decide)).1 (dk_bind (ck2s_u h (by decide)).2 rfl)
theorem dk_167 {c : ByteArray} {p : Nat} {v : Int} (h : ck2s c p 167 v = true) : decode c p = .ok (.goto v, 3) := by
  refine dk_of ?_
  unfold Decoder.instr
  exact dk_bind (ck2s_u h (by decide)).1 (dk_bind (ck2s_u h (by decide)).2 rfl)
theorem dk_172 {c : ByteArray} {p : Nat} (h : ck0 c p 172 = true) : decode c p = .ok (.ireturn, 1) := by
  refine dk_of ?_
  unfold Decoder.instr
  exact dk_bind (ck0_u h (by decide)) rfl
theorem dk_173 {c : ByteArray} {p : Nat} (h : ck0 c p 173 = true) : decode c p = .ok (.lreturn, 1) := by
  refine dk_of ?_
  unfold Decoder.instr
  exact dk_bind (ck0_u h (by decide)) rfl
theorem dk_176 {c : ByteArray} {p : Nat} (h : ck0 c p 176 = true) : decode c p = .ok (.areturn, 1) := by
  refine dk_of ?_
  unfold Decoder.instr
  exact dk_bind (ck0_u h (by decide)) rfl
theorem dk_177 {c : ByteArray} {p : Nat} (h : ck0 c p 177 = true) : decode c p = .ok (.return_, 1) := by
  refine dk_of ?_
  unfold Decoder.instr
  exact dk_bind (ck0_u h (by decide)) rfl
theorem dk_178 {c : ByteArray} {p n : Nat} (h : ck2 c p 178 n = true) : decode c p = .ok (.getstatic n, 3) := by
  refine dk_of ?_
  unfold Decoder.instr
  exact dk_bind (ck2_u h (by decide)).1 (dk_bind (ck2_u h (by decide)).2 rfl)
theorem dk_180 {c : ByteArray} {p n : Nat} (h : ck2 c p 180 n = true) : decode c p = .ok (.getfield n, 3) := by
  refine dk_of ?_
  unfold Decoder.instr
  exact dk_bind (ck2_u h (by decide)).1 (dk_bind (ck2_u h (by decide)).2 rfl)
theorem dk_181 {c : ByteArray} {p n : Nat} (h : ck2 c p 181 n = true) : decode c p = .ok (.putfield n, 3) := by
  refine dk_of ?_
  unfold Decoder.instr
  exact dk_bind (ck2_u h (by decide)).1 (dk_bind (ck2_u h (by decide)).2 rfl)
theorem dk_182 {c : ByteArray} {p n : Nat} (h : ck2 c p 182 n = true) : decode c p = .ok (.invokevirtual n, 3) := by
  refine dk_of ?_
  unfold Decoder.instr
  exact dk_bind (ck2_u h (by decide)).1 (dk_bind (ck2_u h (by decide)).2 rfl)
theorem dk_183 {c : ByteArray} {p n : Nat} (h : ck2 c p 183 n = true) : decode c p = .ok (.invokespecial n, 3) := by
  refine dk_of ?_
  unfold Decoder.instr
  exact dk_bind (ck2_u h (by decide)).1 (dk_bind (ck2_u h (by decide)).2 rfl)
theorem dk_184 {c : ByteArray} {p n : Nat} (h : ck2 c p 184 n = true) : decode c p = .ok (.invokestatic n, 3) := by
  refine dk_of ?_
  unfold Decoder.instr
  exact dk_bind (ck2_u h (by decide)).1 (dk_bind (ck2_u h (by decide)).2 rfl)
theorem dk_187 {c : ByteArray} {p n : Nat} (h : ck2 c p 187 n = true) : decode c p = .ok (.new n, 3) := by
  refine dk_of ?_
  unfold Decoder.instr
  exact dk_bind (ck2_u h (by decide)).1 (dk_bind (ck2_u h (by decide)).2 rfl)
theorem dk_189 {c : ByteArray} {p n : Nat} (h : ck2 c p 189 n = true) : decode c p = .ok (.anewarray n, 3) := by
  refine dk_of ?_
  unfold Decoder.instr
  exact dk_bind (ck2_u h (by decide)).1 (dk_bind (ck2_u h (by decide)).2 rfl)
theorem dk_190 {c : ByteArray} {p : Nat} (h : ck0 c p 190 = true) : decode c p = .ok (.arraylength, 1) := by
  refine dk_of ?_
  unfold Decoder.instr
  exact dk_bind (ck0_u h (by decide)) rfl
theorem dk_198 {c : ByteArray} {p : Nat} {v : Int} (h : ck2s c p 198 v = true) : decode c p = .ok (.ifnull v, 3) := by
  refine dk_of ?_
  unfold Decoder.instr
  exact dk_bind (ck2s_u h (by decide)).1 (dk_bind (ck2s_u h (by decide)).2 rfl)
theorem dk_199 {c : ByteArray} {p : Nat} {v : Int} (h : ck2s c p 199 v = true) : decode c p = .ok (.ifnonnull v, 3) := by
  refine dk_of ?_
  unfold Decoder.instr
  exact dk_bind (ck2s_u h (by decide)).1 (dk_bind (ck2s_u h (by decide)).2 rfl)
theorem dJ0_length_8abf5_0 : decode cJ0_length_8abf5 0 = .ok (.aload_n 0, 1) := dk_42 (by decide +kernel)
theorem dJ0_length_8abf5_1 : decode cJ0_length_8abf5 1 = .ok (.getfield 9, 3) := dk_180 (by decide +kernel)
theorem dJ0_length_8abf5_4 : decode cJ0_length_8abf5 4 = .ok (.arraylength, 1) := dk_190 (by decide +kernel)
theorem dJ0_length_8abf5_5 : decode cJ0_length_8abf5 5 = .ok (.aload_n 0, 1) := dk_42 (by decide +kernel)
theorem dJ0_length_8abf5_6 : decode cJ0_length_8abf5 6 = .ok (.invokevirtual 335, 3) := dk_182 (by decide +kernel)
theorem dJ0_length_8abf5_9 : decode cJ0_length_8abf5 9 = .ok (.ishr, 1) := dk_122 (by decide +kernel)
theorem dJ0_length_8abf5_10 : decode cJ0_length_8abf5 10 = .ok (.ireturn, 1) := dk_172 (by decide +kernel)
theorem dJ0_charAt_5068e_0 : decode cJ0_charAt_5068e 0 = .ok (.aload_n 0, 1) := dk_42 (by decide +kernel)
theorem dJ0_charAt_5068e_1 : decode cJ0_charAt_5068e 1 = .ok (.invokevirtual 492, 3) := dk_182 (by decide +kernel)
theorem dJ0_charAt_5068e_4 : decode cJ0_charAt_5068e 4 = .ok (.ifCond .eq 12, 3) := dk_153 (by decide +kernel)
theorem dJ0_charAt_5068e_7 : decode cJ0_charAt_5068e 7 = .ok (.aload_n 0, 1) := dk_42 (by decide +kernel)
theorem dJ0_charAt_5068e_8 : decode cJ0_charAt_5068e 8 = .ok (.getfield 9, 3) := dk_180 (by decide +kernel)
theorem dJ0_charAt_5068e_11 : decode cJ0_charAt_5068e 11 = .ok (.iload_n 1, 1) := dk_27 (by decide +kernel)
theorem dJ0_charAt_5068e_12 : decode cJ0_charAt_5068e 12 = .ok (.invokestatic 495, 3) := dk_184 (by decide +kernel)
theorem dJ0_charAt_5068e_15 : decode cJ0_charAt_5068e 15 = .ok (.ireturn, 1) := dk_172 (by decide +kernel)
theorem dJ0_coder_7d493_0 : decode cJ0_coder_7d493 0 = .ok (.getstatic 38, 3) := dk_178 (by decide +kernel)
theorem dJ0_coder_7d493_3 : decode cJ0_coder_7d493 3 = .ok (.ifCond .eq 10, 3) := dk_153 (by decide +kernel)
theorem dJ0_coder_7d493_6 : decode cJ0_coder_7d493 6 = .ok (.aload_n 0, 1) := dk_42 (by decide +kernel)
theorem dJ0_coder_7d493_7 : decode cJ0_coder_7d493 7 = .ok (.getfield 15, 3) := dk_180 (by decide +kernel)
theorem dJ0_coder_7d493_10 : decode cJ0_coder_7d493 10 = .ok (.goto 4, 3) := dk_167 (by decide +kernel)
theorem dJ0_coder_7d493_14 : decode cJ0_coder_7d493 14 = .ok (.ireturn, 1) := dk_172 (by decide +kernel)
theorem dJ0_isLatin1_aae02_0 : decode cJ0_isLatin1_aae02 0 = .ok (.getstatic 38, 3) := dk_178 (by decide +kernel)
theorem dJ0_isLatin1_aae02_3 : decode cJ0_isLatin1_aae02 3 = .ok (.ifCond .eq 14, 3) := dk_153 (by decide +kernel)
theorem dJ0_isLatin1_aae02_6 : decode cJ0_isLatin1_aae02 6 = .ok (.aload_n 0, 1) := dk_42 (by decide +kernel)
theorem dJ0_isLatin1_aae02_7 : decode cJ0_isLatin1_aae02 7 = .ok (.getfield 15, 3) := dk_180 (by decide +kernel)
theorem dJ0_isLatin1_aae02_10 : decode cJ0_isLatin1_aae02 10 = .ok (.ifCond .ne 7, 3) := dk_154 (by decide +kernel)
theorem dJ0_isLatin1_aae02_13 : decode cJ0_isLatin1_aae02 13 = .ok (.iconst 1, 1) := dk_4 (by decide +kernel)
theorem dJ0_isLatin1_aae02_14 : decode cJ0_isLatin1_aae02 14 = .ok (.goto 4, 3) := dk_167 (by decide +kernel)
theorem dJ0_isLatin1_aae02_18 : decode cJ0_isLatin1_aae02 18 = .ok (.ireturn, 1) := dk_172 (by decide +kernel)
theorem dJ0_checkIndex_df160_0 : decode cJ0_checkIndex_df160 0 = .ok (.iload_n 0, 1) := dk_26 (by decide +kernel)
theorem dJ0_checkIndex_df160_1 : decode cJ0_checkIndex_df160 1 = .ok (.iload_n 1, 1) := dk_27 (by decide +kernel)
theorem dJ0_checkIndex_df160_2 : decode cJ0_checkIndex_df160 2 = .ok (.getstatic 1053, 3) := dk_178 (by decide +kernel)
theorem dJ0_checkIndex_df160_5 : decode cJ0_checkIndex_df160 5 = .ok (.invokestatic 1059, 3) := dk_184 (by decide +kernel)
theorem dJ0_checkIndex_df160_8 : decode cJ0_checkIndex_df160 8 = .ok (.pop, 1) := dk_87 (by decide +kernel)
theorem dJ0_checkIndex_df160_9 : decode cJ0_checkIndex_df160 9 = .ok (.return_, 1) := dk_177 (by decide +kernel)
theorem dJ1_charAt_3b067_0 : decode cJ1_charAt_3b067 0 = .ok (.iload_n 1, 1) := dk_27 (by decide +kernel)
theorem dJ1_charAt_3b067_1 : decode cJ1_charAt_3b067 1 = .ok (.aload_n 0, 1) := dk_42 (by decide +kernel)
theorem dJ1_charAt_3b067_2 : decode cJ1_charAt_3b067 2 = .ok (.arraylength, 1) := dk_190 (by decide +kernel)
theorem dJ1_charAt_3b067_3 : decode cJ1_charAt_3b067 3 = .ok (.invokestatic 9, 3) := dk_184 (by decide +kernel)
theorem dJ1_charAt_3b067_6 : decode cJ1_charAt_3b067 6 = .ok (.aload_n 0, 1) := dk_42 (by decide +kernel)
theorem dJ1_charAt_3b067_7 : decode cJ1_charAt_3b067 7 = .ok (.iload_n 1, 1) := dk_27 (by decide +kernel)
theorem dJ1_charAt_3b067_8 : decode cJ1_charAt_3b067 8 = .ok (.baload, 1) := dk_51 (by decide +kernel)
theorem dJ1_charAt_3b067_9 : decode cJ1_charAt_3b067 9 = .ok (.sipush 255, 3) := dk_17 (by decide +kernel)
theorem dJ1_charAt_3b067_12 : decode cJ1_charAt_3b067 12 = .ok (.iand, 1) := dk_126 (by decide +kernel)
theorem dJ1_charAt_3b067_13 : decode cJ1_charAt_3b067 13 = .ok (.i2c, 1) := dk_146 (by decide +kernel)
theorem dJ1_charAt_3b067_14 : decode cJ1_charAt_3b067 14 = .ok (.ireturn, 1) := dk_172 (by decide +kernel)
theorem dJ3_checkIndex_8e157_0 : decode cJ3_checkIndex_8e157 0 = .ok (.iload_n 0, 1) := dk_26 (by decide +kernel)
theorem dJ3_checkIndex_8e157_1 : decode cJ3_checkIndex_8e157 1 = .ok (.ifCond .lt 8, 3) := dk_155 (by decide +kernel)
theorem dJ3_checkIndex_8e157_4 : decode cJ3_checkIndex_8e157 4 = .ok (.iload_n 0, 1) := dk_26 (by decide +kernel)
theorem dJ3_checkIndex_8e157_5 : decode cJ3_checkIndex_8e157 5 = .ok (.iload_n 1, 1) := dk_27 (by decide +kernel)
theorem dJ3_checkIndex_8e157_6 : decode cJ3_checkIndex_8e157 6 = .ok (.if_icmp .lt 10, 3) := dk_161 (by decide +kernel)
theorem dJ3_checkIndex_8e157_16 : decode cJ3_checkIndex_8e157 16 = .ok (.iload_n 0, 1) := dk_26 (by decide +kernel)
theorem dJ3_checkIndex_8e157_17 : decode cJ3_checkIndex_8e157 17 = .ok (.ireturn, 1) := dk_172 (by decide +kernel)
theorem dX0_begin_0 : decode cX0_begin 0 = .ok (.aload_n 0, 1) := dk_42 (by decide +kernel)
theorem dX0_begin_1 : decode cX0_begin 1 = .ok (.iconst 0, 1) := dk_3 (by decide +kernel)
theorem dX0_begin_2 : decode cX0_begin 2 = .ok (.putfield 9, 3) := dk_181 (by decide +kernel)
theorem dX0_begin_5 : decode cX0_begin 5 = .ok (.aload_n 0, 1) := dk_42 (by decide +kernel)
theorem dX0_begin_6 : decode cX0_begin 6 = .ok (.lconst 1, 1) := dk_10 (by decide +kernel)
theorem dX0_begin_7 : decode cX0_begin 7 = .ok (.putfield 15, 3) := dk_181 (by decide +kernel)
theorem dX0_begin_10 : decode cX0_begin 10 = .ok (.iconst 0, 1) := dk_3 (by decide +kernel)
theorem dX0_begin_11 : decode cX0_begin 11 = .ok (.istore_n 3, 1) := dk_62 (by decide +kernel)
theorem dX0_begin_12 : decode cX0_begin 12 = .ok (.iload_n 3, 1) := dk_29 (by decide +kernel)
theorem dX0_begin_13 : decode cX0_begin 13 = .ok (.aload_n 0, 1) := dk_42 (by decide +kernel)
theorem dX0_begin_14 : decode cX0_begin 14 = .ok (.getfield 19, 3) := dk_180 (by decide +kernel)
theorem dX0_begin_17 : decode cX0_begin 17 = .ok (.arraylength, 1) := dk_190 (by decide +kernel)
theorem dX0_begin_18 : decode cX0_begin 18 = .ok (.if_icmp .ge 29, 3) := dk_162 (by decide +kernel)
theorem dX0_begin_21 : decode cX0_begin 21 = .ok (.aload_n 0, 1) := dk_42 (by decide +kernel)
theorem dX0_begin_22 : decode cX0_begin 22 = .ok (.getfield 19, 3) := dk_180 (by decide +kernel)
theorem dX0_begin_25 : decode cX0_begin 25 = .ok (.iload_n 3, 1) := dk_29 (by decide +kernel)
theorem dX0_begin_26 : decode cX0_begin 26 = .ok (.iload_n 3, 1) := dk_29 (by decide +kernel)
theorem dX0_begin_27 : decode cX0_begin 27 = .ok (.iload_n 1, 1) := dk_27 (by decide +kernel)
theorem dX0_begin_28 : decode cX0_begin 28 = .ok (.iconst 4, 1) := dk_7 (by decide +kernel)
theorem dX0_begin_29 : decode cX0_begin 29 = .ok (.imul, 1) := dk_104 (by decide +kernel)
theorem dX0_begin_30 : decode cX0_begin 30 = .ok (.iload_n 2, 1) := dk_28 (by decide +kernel)
theorem dX0_begin_31 : decode cX0_begin 31 = .ok (.iadd, 1) := dk_96 (by decide +kernel)
theorem dX0_begin_32 : decode cX0_begin 32 = .ok (.if_icmp .ne 7, 3) := dk_160 (by decide +kernel)
theorem dX0_begin_35 : decode cX0_begin 35 = .ok (.lconst 1, 1) := dk_10 (by decide +kernel)
theorem dX0_begin_36 : decode cX0_begin 36 = .ok (.goto 4, 3) := dk_167 (by decide +kernel)
theorem dX0_begin_39 : decode cX0_begin 39 = .ok (.lconst 0, 1) := dk_9 (by decide +kernel)
theorem dX0_begin_40 : decode cX0_begin 40 = .ok (.lastore, 1) := dk_80 (by decide +kernel)
theorem dX0_begin_41 : decode cX0_begin 41 = .ok (.iinc 3 1, 3) := dk_132 (by decide +kernel)
theorem dX0_begin_44 : decode cX0_begin 44 = .ok (.goto (-32), 3) := dk_167 (by decide +kernel)
theorem dX0_begin_47 : decode cX0_begin 47 = .ok (.return_, 1) := dk_177 (by decide +kernel)
theorem dX0_add_0 : decode cX0_add 0 = .ok (.aload_n 0, 1) := dk_42 (by decide +kernel)
theorem dX0_add_1 : decode cX0_add 1 = .ok (.dup, 1) := dk_89 (by decide +kernel)
theorem dX0_add_2 : decode cX0_add 2 = .ok (.getfield 9, 3) := dk_180 (by decide +kernel)
theorem dX0_add_5 : decode cX0_add 5 = .ok (.iconst 1, 1) := dk_4 (by decide +kernel)
theorem dX0_add_6 : decode cX0_add 6 = .ok (.iadd, 1) := dk_96 (by decide +kernel)
theorem dX0_add_7 : decode cX0_add 7 = .ok (.putfield 9, 3) := dk_181 (by decide +kernel)
theorem dX0_add_10 : decode cX0_add 10 = .ok (.aload_n 0, 1) := dk_42 (by decide +kernel)
theorem dX0_add_11 : decode cX0_add 11 = .ok (.getfield 9, 3) := dk_180 (by decide +kernel)
theorem dX0_add_14 : decode cX0_add 14 = .ok (.bipush 8, 2) := dk_16 (by decide +kernel)
theorem dX0_add_16 : decode cX0_add 16 = .ok (.if_icmp .le 4, 3) := dk_164 (by decide +kernel)
theorem dX0_add_19 : decode cX0_add 19 = .ok (.return_, 1) := dk_177 (by decide +kernel)
theorem dX0_add_20 : decode cX0_add 20 = .ok (.aload_n 1, 1) := dk_43 (by decide +kernel)
theorem dX0_add_21 : decode cX0_add 21 = .ok (.iload_n 3, 1) := dk_29 (by decide +kernel)
theorem dX0_add_22 : decode cX0_add 22 = .ok (.iconst 3, 1) := dk_6 (by decide +kernel)
theorem dX0_add_23 : decode cX0_add 23 = .ok (.invokevirtual 26, 3) := dk_182 (by decide +kernel)
theorem dX0_add_26 : decode cX0_add 26 = .ok (.invokestatic 32, 3) := dk_184 (by decide +kernel)
theorem dX0_add_29 : decode cX0_add 29 = .ok (.istore 4, 2) := dk_54 (by decide +kernel)
theorem dX0_add_31 : decode cX0_add 31 = .ok (.aload_n 2, 1) := dk_44 (by decide +kernel)
theorem dX0_add_32 : decode cX0_add 32 = .ok (.aload_n 1, 1) := dk_43 (by decide +kernel)
theorem dX0_add_33 : decode cX0_add 33 = .ok (.iload_n 3, 1) := dk_29 (by decide +kernel)
theorem dX0_add_34 : decode cX0_add 34 = .ok (.invokevirtual 36, 3) := dk_182 (by decide +kernel)
theorem dX0_add_37 : decode cX0_add 37 = .ok (.ifCond .eq 8, 3) := dk_153 (by decide +kernel)
theorem dX0_add_40 : decode cX0_add 40 = .ok (.iload 4, 2) := dk_21 (by decide +kernel)
theorem dX0_add_42 : decode cX0_add 42 = .ok (.goto 4, 3) := dk_167 (by decide +kernel)
theorem dX0_add_45 : decode cX0_add 45 = .ok (.iconst 0, 1) := dk_3 (by decide +kernel)
theorem dX0_add_46 : decode cX0_add 46 = .ok (.istore 5, 2) := dk_54 (by decide +kernel)
theorem dX0_add_48 : decode cX0_add 48 = .ok (.aload_n 2, 1) := dk_44 (by decide +kernel)
theorem dX0_add_49 : decode cX0_add 49 = .ok (.aload_n 1, 1) := dk_43 (by decide +kernel)
theorem dX0_add_50 : decode cX0_add 50 = .ok (.iload_n 3, 1) := dk_29 (by decide +kernel)
theorem dX0_add_51 : decode cX0_add 51 = .ok (.invokevirtual 42, 3) := dk_182 (by decide +kernel)
theorem dX0_add_54 : decode cX0_add 54 = .ok (.aload_n 2, 1) := dk_44 (by decide +kernel)
theorem dX0_add_55 : decode cX0_add 55 = .ok (.aload_n 1, 1) := dk_43 (by decide +kernel)
theorem dX0_add_56 : decode cX0_add 56 = .ok (.iconst 0, 1) := dk_3 (by decide +kernel)
theorem dX0_add_57 : decode cX0_add 57 = .ok (.invokevirtual 46, 3) := dk_182 (by decide +kernel)
theorem dX0_add_60 : decode cX0_add 60 = .ok (.istore 6, 2) := dk_54 (by decide +kernel)
theorem dX0_add_62 : decode cX0_add 62 = .ok (.iload 6, 2) := dk_21 (by decide +kernel)
theorem dX0_add_64 : decode cX0_add 64 = .ok (.aload_n 2, 1) := dk_44 (by decide +kernel)
theorem dX0_add_65 : decode cX0_add 65 = .ok (.aload_n 1, 1) := dk_43 (by decide +kernel)
theorem dX0_add_66 : decode cX0_add 66 = .ok (.iconst 1, 1) := dk_4 (by decide +kernel)
theorem dX0_add_67 : decode cX0_add 67 = .ok (.invokevirtual 46, 3) := dk_182 (by decide +kernel)
theorem dX0_add_70 : decode cX0_add 70 = .ok (.imul, 1) := dk_104 (by decide +kernel)
theorem dX0_add_71 : decode cX0_add 71 = .ok (.istore 7, 2) := dk_54 (by decide +kernel)
theorem dX0_add_73 : decode cX0_add 73 = .ok (.bipush 10, 2) := dk_16 (by decide +kernel)
theorem dX0_add_75 : decode cX0_add 75 = .ok (.iload 6, 2) := dk_21 (by decide +kernel)
theorem dX0_add_77 : decode cX0_add 77 = .ok (.isub, 1) := dk_100 (by decide +kernel)
theorem dX0_add_78 : decode cX0_add 78 = .ok (.bipush 10, 2) := dk_16 (by decide +kernel)
theorem dX0_add_80 : decode cX0_add 80 = .ok (.imul, 1) := dk_104 (by decide +kernel)
theorem dX0_add_81 : decode cX0_add 81 = .ok (.istore 8, 2) := dk_54 (by decide +kernel)
theorem dX0_add_83 : decode cX0_add 83 = .ok (.iconst 0, 1) := dk_3 (by decide +kernel)
theorem dX0_add_84 : decode cX0_add 84 = .ok (.istore 9, 2) := dk_54 (by decide +kernel)
theorem dX0_add_86 : decode cX0_add 86 = .ok (.iload 9, 2) := dk_21 (by decide +kernel)
theorem dX0_add_88 : decode cX0_add 88 = .ok (.aload_n 0, 1) := dk_42 (by decide +kernel)
theorem dX0_add_89 : decode cX0_add 89 = .ok (.getfield 23, 3) := dk_180 (by decide +kernel)
theorem dX0_add_92 : decode cX0_add 92 = .ok (.arraylength, 1) := dk_190 (by decide +kernel)
theorem dX0_add_93 : decode cX0_add 93 = .ok (.if_icmp .ge 33, 3) := dk_162 (by decide +kernel)
theorem dX0_add_96 : decode cX0_add 96 = .ok (.aload_n 0, 1) := dk_42 (by decide +kernel)
theorem dX0_add_97 : decode cX0_add 97 = .ok (.getfield 23, 3) := dk_180 (by decide +kernel)
theorem dX0_add_100 : decode cX0_add 100 = .ok (.iload 9, 2) := dk_21 (by decide +kernel)
theorem dX0_add_102 : decode cX0_add 102 = .ok (.aload_n 0, 1) := dk_42 (by decide +kernel)
theorem dX0_add_103 : decode cX0_add 103 = .ok (.getfield 19, 3) := dk_180 (by decide +kernel)
theorem dX0_add_106 : decode cX0_add 106 = .ok (.iload 9, 2) := dk_21 (by decide +kernel)
theorem dX0_add_108 : decode cX0_add 108 = .ok (.laload, 1) := dk_47 (by decide +kernel)
theorem dX0_add_109 : decode cX0_add 109 = .ok (.bipush 100, 2) := dk_16 (by decide +kernel)
theorem dX0_add_111 : decode cX0_add 111 = .ok (.iload 8, 2) := dk_21 (by decide +kernel)
theorem dX0_add_113 : decode cX0_add 113 = .ok (.isub, 1) := dk_100 (by decide +kernel)
theorem dX0_add_114 : decode cX0_add 114 = .ok (.iload 7, 2) := dk_21 (by decide +kernel)
theorem dX0_add_116 : decode cX0_add 116 = .ok (.isub, 1) := dk_100 (by decide +kernel)
theorem dX0_add_117 : decode cX0_add 117 = .ok (.i2l, 1) := dk_133 (by decide +kernel)
theorem dX0_add_118 : decode cX0_add 118 = .ok (.lmul, 1) := dk_105 (by decide +kernel)
theorem dX0_add_119 : decode cX0_add 119 = .ok (.lastore, 1) := dk_80 (by decide +kernel)
theorem dX0_add_120 : decode cX0_add 120 = .ok (.iinc 9 1, 3) := dk_132 (by decide +kernel)
theorem dX0_add_123 : decode cX0_add 123 = .ok (.goto (-37), 3) := dk_167 (by decide +kernel)
theorem dX0_add_126 : decode cX0_add 126 = .ok (.iconst 0, 1) := dk_3 (by decide +kernel)
theorem dX0_add_127 : decode cX0_add 127 = .ok (.istore 9, 2) := dk_54 (by decide +kernel)
theorem dX0_add_129 : decode cX0_add 129 = .ok (.iload 9, 2) := dk_21 (by decide +kernel)
theorem dX0_add_131 : decode cX0_add 131 = .ok (.aload_n 0, 1) := dk_42 (by decide +kernel)
theorem dX0_add_132 : decode cX0_add 132 = .ok (.getfield 19, 3) := dk_180 (by decide +kernel)
theorem dX0_add_135 : decode cX0_add 135 = .ok (.arraylength, 1) := dk_190 (by decide +kernel)
theorem dX0_add_136 : decode cX0_add 136 = .ok (.if_icmp .ge 59, 3) := dk_162 (by decide +kernel)
theorem dX0_add_139 : decode cX0_add 139 = .ok (.aload_n 0, 1) := dk_42 (by decide +kernel)
theorem dX0_add_140 : decode cX0_add 140 = .ok (.getfield 23, 3) := dk_180 (by decide +kernel)
theorem dX0_add_143 : decode cX0_add 143 = .ok (.iload 9, 2) := dk_21 (by decide +kernel)
theorem dX0_add_145 : decode cX0_add 145 = .ok (.iload 5, 2) := dk_21 (by decide +kernel)
theorem dX0_add_147 : decode cX0_add 147 = .ok (.iconst 4, 1) := dk_7 (by decide +kernel)
theorem dX0_add_148 : decode cX0_add 148 = .ok (.imul, 1) := dk_104 (by decide +kernel)
theorem dX0_add_149 : decode cX0_add 149 = .ok (.ior, 1) := dk_128 (by decide +kernel)
theorem dX0_add_150 : decode cX0_add 150 = .ok (.dup2, 1) := dk_92 (by decide +kernel)
theorem dX0_add_151 : decode cX0_add 151 = .ok (.laload, 1) := dk_47 (by decide +kernel)
theorem dX0_add_152 : decode cX0_add 152 = .ok (.aload_n 0, 1) := dk_42 (by decide +kernel)
theorem dX0_add_153 : decode cX0_add 153 = .ok (.getfield 19, 3) := dk_180 (by decide +kernel)
theorem dX0_add_156 : decode cX0_add 156 = .ok (.iload 9, 2) := dk_21 (by decide +kernel)
theorem dX0_add_158 : decode cX0_add 158 = .ok (.laload, 1) := dk_47 (by decide +kernel)
theorem dX0_add_159 : decode cX0_add 159 = .ok (.iload 8, 2) := dk_21 (by decide +kernel)
theorem dX0_add_161 : decode cX0_add 161 = .ok (.i2l, 1) := dk_133 (by decide +kernel)
theorem dX0_add_162 : decode cX0_add 162 = .ok (.lmul, 1) := dk_105 (by decide +kernel)
theorem dX0_add_163 : decode cX0_add 163 = .ok (.ladd, 1) := dk_97 (by decide +kernel)
theorem dX0_add_164 : decode cX0_add 164 = .ok (.lastore, 1) := dk_80 (by decide +kernel)
theorem dX0_add_165 : decode cX0_add 165 = .ok (.aload_n 0, 1) := dk_42 (by decide +kernel)
theorem dX0_add_166 : decode cX0_add 166 = .ok (.getfield 23, 3) := dk_180 (by decide +kernel)
theorem dX0_add_169 : decode cX0_add 169 = .ok (.iload 9, 2) := dk_21 (by decide +kernel)
theorem dX0_add_171 : decode cX0_add 171 = .ok (.iload 4, 2) := dk_21 (by decide +kernel)
theorem dX0_add_173 : decode cX0_add 173 = .ok (.ior, 1) := dk_128 (by decide +kernel)
theorem dX0_add_174 : decode cX0_add 174 = .ok (.dup2, 1) := dk_92 (by decide +kernel)
theorem dX0_add_175 : decode cX0_add 175 = .ok (.laload, 1) := dk_47 (by decide +kernel)
theorem dX0_add_176 : decode cX0_add 176 = .ok (.aload_n 0, 1) := dk_42 (by decide +kernel)
theorem dX0_add_177 : decode cX0_add 177 = .ok (.getfield 19, 3) := dk_180 (by decide +kernel)
theorem dX0_add_180 : decode cX0_add 180 = .ok (.iload 9, 2) := dk_21 (by decide +kernel)
theorem dX0_add_182 : decode cX0_add 182 = .ok (.laload, 1) := dk_47 (by decide +kernel)
theorem dX0_add_183 : decode cX0_add 183 = .ok (.iload 7, 2) := dk_21 (by decide +kernel)
theorem dX0_add_185 : decode cX0_add 185 = .ok (.i2l, 1) := dk_133 (by decide +kernel)
theorem dX0_add_186 : decode cX0_add 186 = .ok (.lmul, 1) := dk_105 (by decide +kernel)
theorem dX0_add_187 : decode cX0_add 187 = .ok (.ladd, 1) := dk_97 (by decide +kernel)
theorem dX0_add_188 : decode cX0_add 188 = .ok (.lastore, 1) := dk_80 (by decide +kernel)
theorem dX0_add_189 : decode cX0_add 189 = .ok (.iinc 9 1, 3) := dk_132 (by decide +kernel)
theorem dX0_add_192 : decode cX0_add 192 = .ok (.goto (-63), 3) := dk_167 (by decide +kernel)
theorem dX0_add_195 : decode cX0_add 195 = .ok (.aload_n 0, 1) := dk_42 (by decide +kernel)
theorem dX0_add_196 : decode cX0_add 196 = .ok (.getfield 23, 3) := dk_180 (by decide +kernel)
theorem dX0_add_199 : decode cX0_add 199 = .ok (.iconst 0, 1) := dk_3 (by decide +kernel)
theorem dX0_add_200 : decode cX0_add 200 = .ok (.aload_n 0, 1) := dk_42 (by decide +kernel)
theorem dX0_add_201 : decode cX0_add 201 = .ok (.getfield 19, 3) := dk_180 (by decide +kernel)
theorem dX0_add_204 : decode cX0_add 204 = .ok (.iconst 0, 1) := dk_3 (by decide +kernel)
theorem dX0_add_205 : decode cX0_add 205 = .ok (.aload_n 0, 1) := dk_42 (by decide +kernel)
theorem dX0_add_206 : decode cX0_add 206 = .ok (.getfield 19, 3) := dk_180 (by decide +kernel)
theorem dX0_add_209 : decode cX0_add 209 = .ok (.arraylength, 1) := dk_190 (by decide +kernel)
theorem dX0_add_210 : decode cX0_add 210 = .ok (.invokestatic 50, 3) := dk_184 (by decide +kernel)
theorem dX0_add_213 : decode cX0_add 213 = .ok (.aload_n 0, 1) := dk_42 (by decide +kernel)
theorem dX0_add_214 : decode cX0_add 214 = .ok (.dup, 1) := dk_89 (by decide +kernel)
theorem dX0_add_215 : decode cX0_add 215 = .ok (.getfield 15, 3) := dk_180 (by decide +kernel)
theorem dX0_add_218 : decode cX0_add 218 = .ok (.ldc2_w 56, 3) := dk_20 (by decide +kernel)
theorem dX0_add_221 : decode cX0_add 221 = .ok (.lmul, 1) := dk_105 (by decide +kernel)
theorem dX0_add_222 : decode cX0_add 222 = .ok (.putfield 15, 3) := dk_181 (by decide +kernel)
theorem dX0_add_225 : decode cX0_add 225 = .ok (.return_, 1) := dk_177 (by decide +kernel)
theorem dX0_upper_0 : decode cX0_upper 0 = .ok (.lconst 0, 1) := dk_9 (by decide +kernel)
theorem dX0_upper_1 : decode cX0_upper 1 = .ok (.lstore_n 2, 1) := dk_65 (by decide +kernel)
theorem dX0_upper_2 : decode cX0_upper 2 = .ok (.iconst 0, 1) := dk_3 (by decide +kernel)
theorem dX0_upper_3 : decode cX0_upper 3 = .ok (.istore 4, 2) := dk_54 (by decide +kernel)
theorem dX0_upper_5 : decode cX0_upper 5 = .ok (.iload 4, 2) := dk_21 (by decide +kernel)
theorem dX0_upper_7 : decode cX0_upper 7 = .ok (.aload_n 0, 1) := dk_42 (by decide +kernel)
theorem dX0_upper_8 : decode cX0_upper 8 = .ok (.getfield 19, 3) := dk_180 (by decide +kernel)
theorem dX0_upper_11 : decode cX0_upper 11 = .ok (.arraylength, 1) := dk_190 (by decide +kernel)
theorem dX0_upper_12 : decode cX0_upper 12 = .ok (.if_icmp .ge 84, 3) := dk_162 (by decide +kernel)
theorem dX0_upper_15 : decode cX0_upper 15 = .ok (.iload 4, 2) := dk_21 (by decide +kernel)
theorem dX0_upper_17 : decode cX0_upper 17 = .ok (.iconst 4, 1) := dk_7 (by decide +kernel)
theorem dX0_upper_18 : decode cX0_upper 18 = .ok (.idiv, 1) := dk_108 (by decide +kernel)
theorem dX0_upper_19 : decode cX0_upper 19 = .ok (.iconst 3, 1) := dk_6 (by decide +kernel)
theorem dX0_upper_20 : decode cX0_upper 20 = .ok (.if_icmp .ne 7, 3) := dk_160 (by decide +kernel)
theorem dX0_upper_23 : decode cX0_upper 23 = .ok (.iconst 1, 1) := dk_4 (by decide +kernel)
theorem dX0_upper_24 : decode cX0_upper 24 = .ok (.goto 4, 3) := dk_167 (by decide +kernel)
theorem dX0_upper_27 : decode cX0_upper 27 = .ok (.iconst 0, 1) := dk_3 (by decide +kernel)
theorem dX0_upper_28 : decode cX0_upper 28 = .ok (.istore 5, 2) := dk_54 (by decide +kernel)
theorem dX0_upper_30 : decode cX0_upper 30 = .ok (.iload 4, 2) := dk_21 (by decide +kernel)
theorem dX0_upper_32 : decode cX0_upper 32 = .ok (.iconst 4, 1) := dk_7 (by decide +kernel)
theorem dX0_upper_33 : decode cX0_upper 33 = .ok (.irem, 1) := dk_112 (by decide +kernel)
theorem dX0_upper_34 : decode cX0_upper 34 = .ok (.iconst 3, 1) := dk_6 (by decide +kernel)
theorem dX0_upper_35 : decode cX0_upper 35 = .ok (.if_icmp .ne 7, 3) := dk_160 (by decide +kernel)
theorem dX0_upper_38 : decode cX0_upper 38 = .ok (.iconst 1, 1) := dk_4 (by decide +kernel)
theorem dX0_upper_39 : decode cX0_upper 39 = .ok (.goto 4, 3) := dk_167 (by decide +kernel)
theorem dX0_upper_42 : decode cX0_upper 42 = .ok (.iconst 0, 1) := dk_3 (by decide +kernel)
theorem dX0_upper_43 : decode cX0_upper 43 = .ok (.istore 6, 2) := dk_54 (by decide +kernel)
theorem dX0_upper_45 : decode cX0_upper 45 = .ok (.iload_n 1, 1) := dk_27 (by decide +kernel)
theorem dX0_upper_46 : decode cX0_upper 46 = .ok (.ifCond .ne 11, 3) := dk_154 (by decide +kernel)
theorem dX0_upper_49 : decode cX0_upper 49 = .ok (.iload 5, 2) := dk_21 (by decide +kernel)
theorem dX0_upper_51 : decode cX0_upper 51 = .ok (.ifCond .eq 39, 3) := dk_153 (by decide +kernel)
theorem dX0_upper_54 : decode cX0_upper 54 = .ok (.goto 26, 3) := dk_167 (by decide +kernel)
theorem dX0_upper_57 : decode cX0_upper 57 = .ok (.iload_n 1, 1) := dk_27 (by decide +kernel)
theorem dX0_upper_58 : decode cX0_upper 58 = .ok (.iconst 1, 1) := dk_4 (by decide +kernel)
theorem dX0_upper_59 : decode cX0_upper 59 = .ok (.if_icmp .ne 11, 3) := dk_160 (by decide +kernel)
theorem dX0_upper_62 : decode cX0_upper 62 = .ok (.iload 6, 2) := dk_21 (by decide +kernel)
theorem dX0_upper_64 : decode cX0_upper 64 = .ok (.ifCond .eq 26, 3) := dk_153 (by decide +kernel)
theorem dX0_upper_67 : decode cX0_upper 67 = .ok (.goto 13, 3) := dk_167 (by decide +kernel)
theorem dX0_upper_70 : decode cX0_upper 70 = .ok (.iload 5, 2) := dk_21 (by decide +kernel)
theorem dX0_upper_72 : decode cX0_upper 72 = .ok (.ifCond .eq 18, 3) := dk_153 (by decide +kernel)
theorem dX0_upper_75 : decode cX0_upper 75 = .ok (.iload 6, 2) := dk_21 (by decide +kernel)
theorem dX0_upper_77 : decode cX0_upper 77 = .ok (.ifCond .ne 13, 3) := dk_154 (by decide +kernel)
theorem dX0_upper_80 : decode cX0_upper 80 = .ok (.lload_n 2, 1) := dk_32 (by decide +kernel)
theorem dX0_upper_81 : decode cX0_upper 81 = .ok (.aload_n 0, 1) := dk_42 (by decide +kernel)
theorem dX0_upper_82 : decode cX0_upper 82 = .ok (.getfield 19, 3) := dk_180 (by decide +kernel)
theorem dX0_upper_85 : decode cX0_upper 85 = .ok (.iload 4, 2) := dk_21 (by decide +kernel)
theorem dX0_upper_87 : decode cX0_upper 87 = .ok (.laload, 1) := dk_47 (by decide +kernel)
theorem dX0_upper_88 : decode cX0_upper 88 = .ok (.ladd, 1) := dk_97 (by decide +kernel)
theorem dX0_upper_89 : decode cX0_upper 89 = .ok (.lstore_n 2, 1) := dk_65 (by decide +kernel)
theorem dX0_upper_90 : decode cX0_upper 90 = .ok (.iinc 4 1, 3) := dk_132 (by decide +kernel)
theorem dX0_upper_93 : decode cX0_upper 93 = .ok (.goto (-88), 3) := dk_167 (by decide +kernel)
theorem dX0_upper_96 : decode cX0_upper 96 = .ok (.lload_n 2, 1) := dk_32 (by decide +kernel)
theorem dX0_upper_97 : decode cX0_upper 97 = .ok (.lreturn, 1) := dk_173 (by decide +kernel)
theorem dX1_textOf_0 : decode cX1_textOf 0 = .ok (.iload_n 1, 1) := dk_27 (by decide +kernel)
theorem dX1_textOf_1 : decode cX1_textOf 1 = .ok (.ifCond .lt 17, 3) := dk_155 (by decide +kernel)
theorem dX1_textOf_4 : decode cX1_textOf 4 = .ok (.iload_n 1, 1) := dk_27 (by decide +kernel)
theorem dX1_textOf_5 : decode cX1_textOf 5 = .ok (.iconst 4, 1) := dk_7 (by decide +kernel)
theorem dX1_textOf_6 : decode cX1_textOf 6 = .ok (.if_icmp .ge 12, 3) := dk_162 (by decide +kernel)
theorem dX1_textOf_9 : decode cX1_textOf 9 = .ok (.aload_n 0, 1) := dk_42 (by decide +kernel)
theorem dX1_textOf_10 : decode cX1_textOf 10 = .ok (.getfield 11, 3) := dk_180 (by decide +kernel)
theorem dX1_textOf_13 : decode cX1_textOf 13 = .ok (.iload_n 1, 1) := dk_27 (by decide +kernel)
theorem dX1_textOf_14 : decode cX1_textOf 14 = .ok (.aaload, 1) := dk_50 (by decide +kernel)
theorem dX1_textOf_15 : decode cX1_textOf 15 = .ok (.goto 4, 3) := dk_167 (by decide +kernel)
theorem dX1_textOf_18 : decode cX1_textOf 18 = .ok (.aconst_null, 1) := dk_1 (by decide +kernel)
theorem dX1_textOf_19 : decode cX1_textOf 19 = .ok (.areturn, 1) := dk_176 (by decide +kernel)
theorem dX1_lookAt_0 : decode cX1_lookAt 0 = .ok (.aload_n 0, 1) := dk_42 (by decide +kernel)
theorem dX1_lookAt_1 : decode cX1_lookAt 1 = .ok (.getfield 17, 3) := dk_180 (by decide +kernel)
theorem dX1_lookAt_4 : decode cX1_lookAt 4 = .ok (.iconst 0, 1) := dk_3 (by decide +kernel)
theorem dX1_lookAt_5 : decode cX1_lookAt 5 = .ok (.iload_n 2, 1) := dk_28 (by decide +kernel)
theorem dX1_lookAt_6 : decode cX1_lookAt 6 = .ok (.iastore, 1) := dk_79 (by decide +kernel)
theorem dX1_lookAt_7 : decode cX1_lookAt 7 = .ok (.aload_n 0, 1) := dk_42 (by decide +kernel)
theorem dX1_lookAt_8 : decode cX1_lookAt 8 = .ok (.getfield 17, 3) := dk_180 (by decide +kernel)
theorem dX1_lookAt_11 : decode cX1_lookAt 11 = .ok (.iconst 1, 1) := dk_4 (by decide +kernel)
theorem dX1_lookAt_12 : decode cX1_lookAt 12 = .ok (.aload_n 1, 1) := dk_43 (by decide +kernel)
theorem dX1_lookAt_13 : decode cX1_lookAt 13 = .ok (.iload_n 2, 1) := dk_28 (by decide +kernel)
theorem dX1_lookAt_14 : decode cX1_lookAt 14 = .ok (.iconst 0, 1) := dk_3 (by decide +kernel)
theorem dX1_lookAt_15 : decode cX1_lookAt 15 = .ok (.invokevirtual 29, 3) := dk_182 (by decide +kernel)
theorem dX1_lookAt_18 : decode cX1_lookAt 18 = .ok (.iastore, 1) := dk_79 (by decide +kernel)
theorem dX1_lookAt_19 : decode cX1_lookAt 19 = .ok (.aload_n 0, 1) := dk_42 (by decide +kernel)
theorem dX1_lookAt_20 : decode cX1_lookAt 20 = .ok (.getfield 17, 3) := dk_180 (by decide +kernel)
theorem dX1_lookAt_23 : decode cX1_lookAt 23 = .ok (.iconst 2, 1) := dk_5 (by decide +kernel)
theorem dX1_lookAt_24 : decode cX1_lookAt 24 = .ok (.aload_n 1, 1) := dk_43 (by decide +kernel)
theorem dX1_lookAt_25 : decode cX1_lookAt 25 = .ok (.iload_n 2, 1) := dk_28 (by decide +kernel)
theorem dX1_lookAt_26 : decode cX1_lookAt 26 = .ok (.iconst 1, 1) := dk_4 (by decide +kernel)
theorem dX1_lookAt_27 : decode cX1_lookAt 27 = .ok (.invokevirtual 29, 3) := dk_182 (by decide +kernel)
theorem dX1_lookAt_30 : decode cX1_lookAt 30 = .ok (.iastore, 1) := dk_79 (by decide +kernel)
theorem dX1_lookAt_31 : decode cX1_lookAt 31 = .ok (.aload_n 0, 1) := dk_42 (by decide +kernel)
theorem dX1_lookAt_32 : decode cX1_lookAt 32 = .ok (.getfield 17, 3) := dk_180 (by decide +kernel)
theorem dX1_lookAt_35 : decode cX1_lookAt 35 = .ok (.iconst 3, 1) := dk_6 (by decide +kernel)
theorem dX1_lookAt_36 : decode cX1_lookAt 36 = .ok (.aload_n 1, 1) := dk_43 (by decide +kernel)
theorem dX1_lookAt_37 : decode cX1_lookAt 37 = .ok (.iload_n 2, 1) := dk_28 (by decide +kernel)
theorem dX1_lookAt_38 : decode cX1_lookAt 38 = .ok (.iconst 2, 1) := dk_5 (by decide +kernel)
theorem dX1_lookAt_39 : decode cX1_lookAt 39 = .ok (.invokevirtual 29, 3) := dk_182 (by decide +kernel)
theorem dX1_lookAt_42 : decode cX1_lookAt 42 = .ok (.iastore, 1) := dk_79 (by decide +kernel)
theorem dX1_lookAt_43 : decode cX1_lookAt 43 = .ok (.aload_n 0, 1) := dk_42 (by decide +kernel)
theorem dX1_lookAt_44 : decode cX1_lookAt 44 = .ok (.getfield 17, 3) := dk_180 (by decide +kernel)
theorem dX1_lookAt_47 : decode cX1_lookAt 47 = .ok (.iconst 4, 1) := dk_7 (by decide +kernel)
theorem dX1_lookAt_48 : decode cX1_lookAt 48 = .ok (.aload_n 1, 1) := dk_43 (by decide +kernel)
theorem dX1_lookAt_49 : decode cX1_lookAt 49 = .ok (.iload_n 2, 1) := dk_28 (by decide +kernel)
theorem dX1_lookAt_50 : decode cX1_lookAt 50 = .ok (.iconst 3, 1) := dk_6 (by decide +kernel)
theorem dX1_lookAt_51 : decode cX1_lookAt 51 = .ok (.invokevirtual 29, 3) := dk_182 (by decide +kernel)
theorem dX1_lookAt_54 : decode cX1_lookAt 54 = .ok (.iastore, 1) := dk_79 (by decide +kernel)
theorem dX1_lookAt_55 : decode cX1_lookAt 55 = .ok (.aload_n 0, 1) := dk_42 (by decide +kernel)
theorem dX1_lookAt_56 : decode cX1_lookAt 56 = .ok (.getfield 17, 3) := dk_180 (by decide +kernel)
theorem dX1_lookAt_59 : decode cX1_lookAt 59 = .ok (.iconst 5, 1) := dk_8 (by decide +kernel)
theorem dX1_lookAt_60 : decode cX1_lookAt 60 = .ok (.aload_n 1, 1) := dk_43 (by decide +kernel)
theorem dX1_lookAt_61 : decode cX1_lookAt 61 = .ok (.getfield 35, 3) := dk_180 (by decide +kernel)
theorem dX1_lookAt_64 : decode cX1_lookAt 64 = .ok (.iastore, 1) := dk_79 (by decide +kernel)
theorem dX1_lookAt_65 : decode cX1_lookAt 65 = .ok (.return_, 1) := dk_177 (by decide +kernel)
theorem dX1_lookAtFilled_0 : decode cX1_lookAtFilled 0 = .ok (.aload_n 0, 1) := dk_42 (by decide +kernel)
theorem dX1_lookAtFilled_1 : decode cX1_lookAtFilled 1 = .ok (.aload_n 1, 1) := dk_43 (by decide +kernel)
theorem dX1_lookAtFilled_2 : decode cX1_lookAtFilled 2 = .ok (.iload_n 2, 1) := dk_28 (by decide +kernel)
theorem dX1_lookAtFilled_3 : decode cX1_lookAtFilled 3 = .ok (.invokevirtual 38, 3) := dk_182 (by decide +kernel)
theorem dX1_lookAtFilled_6 : decode cX1_lookAtFilled 6 = .ok (.aload_n 0, 1) := dk_42 (by decide +kernel)
theorem dX1_lookAtFilled_7 : decode cX1_lookAtFilled 7 = .ok (.getfield 17, 3) := dk_180 (by decide +kernel)
theorem dX1_lookAtFilled_10 : decode cX1_lookAtFilled 10 = .ok (.iconst 3, 1) := dk_6 (by decide +kernel)
theorem dX1_lookAtFilled_11 : decode cX1_lookAtFilled 11 = .ok (.iload_n 3, 1) := dk_29 (by decide +kernel)
theorem dX1_lookAtFilled_12 : decode cX1_lookAtFilled 12 = .ok (.iastore, 1) := dk_79 (by decide +kernel)
theorem dX1_lookAtFilled_13 : decode cX1_lookAtFilled 13 = .ok (.aload_n 0, 1) := dk_42 (by decide +kernel)
theorem dX1_lookAtFilled_14 : decode cX1_lookAtFilled 14 = .ok (.getfield 17, 3) := dk_180 (by decide +kernel)
theorem dX1_lookAtFilled_17 : decode cX1_lookAtFilled 17 = .ok (.iconst 4, 1) := dk_7 (by decide +kernel)
theorem dX1_lookAtFilled_18 : decode cX1_lookAtFilled 18 = .ok (.iload 4, 2) := dk_21 (by decide +kernel)
theorem dX1_lookAtFilled_20 : decode cX1_lookAtFilled 20 = .ok (.iastore, 1) := dk_79 (by decide +kernel)
theorem dX1_lookAtFilled_21 : decode cX1_lookAtFilled 21 = .ok (.return_, 1) := dk_177 (by decide +kernel)
theorem dX1_lookAtMarket_0 : decode cX1_lookAtMarket 0 = .ok (.aload_n 0, 1) := dk_42 (by decide +kernel)
theorem dX1_lookAtMarket_1 : decode cX1_lookAtMarket 1 = .ok (.getfield 17, 3) := dk_180 (by decide +kernel)
theorem dX1_lookAtMarket_4 : decode cX1_lookAtMarket 4 = .ok (.iconst 5, 1) := dk_8 (by decide +kernel)
theorem dX1_lookAtMarket_5 : decode cX1_lookAtMarket 5 = .ok (.iload_n 3, 1) := dk_29 (by decide +kernel)
theorem dX1_lookAtMarket_6 : decode cX1_lookAtMarket 6 = .ok (.iastore, 1) := dk_79 (by decide +kernel)
theorem dX1_lookAtMarket_7 : decode cX1_lookAtMarket 7 = .ok (.aload_n 0, 1) := dk_42 (by decide +kernel)
theorem dX1_lookAtMarket_8 : decode cX1_lookAtMarket 8 = .ok (.getfield 17, 3) := dk_180 (by decide +kernel)
theorem dX1_lookAtMarket_11 : decode cX1_lookAtMarket 11 = .ok (.bipush 6, 2) := dk_16 (by decide +kernel)
theorem dX1_lookAtMarket_13 : decode cX1_lookAtMarket 13 = .ok (.iload_n 2, 1) := dk_28 (by decide +kernel)
theorem dX1_lookAtMarket_14 : decode cX1_lookAtMarket 14 = .ok (.iastore, 1) := dk_79 (by decide +kernel)
theorem dX1_lookAtMarket_15 : decode cX1_lookAtMarket 15 = .ok (.aload_n 0, 1) := dk_42 (by decide +kernel)
theorem dX1_lookAtMarket_16 : decode cX1_lookAtMarket 16 = .ok (.getfield 17, 3) := dk_180 (by decide +kernel)
theorem dX1_lookAtMarket_19 : decode cX1_lookAtMarket 19 = .ok (.bipush 7, 2) := dk_16 (by decide +kernel)
theorem dX1_lookAtMarket_21 : decode cX1_lookAtMarket 21 = .ok (.aload_n 1, 1) := dk_43 (by decide +kernel)
theorem dX1_lookAtMarket_22 : decode cX1_lookAtMarket 22 = .ok (.iload_n 2, 1) := dk_28 (by decide +kernel)
theorem dX1_lookAtMarket_23 : decode cX1_lookAtMarket 23 = .ok (.iconst 1, 1) := dk_4 (by decide +kernel)
theorem dX1_lookAtMarket_24 : decode cX1_lookAtMarket 24 = .ok (.invokevirtual 42, 3) := dk_182 (by decide +kernel)
theorem dX1_lookAtMarket_27 : decode cX1_lookAtMarket 27 = .ok (.iastore, 1) := dk_79 (by decide +kernel)
theorem dX1_lookAtMarket_28 : decode cX1_lookAtMarket 28 = .ok (.aload_n 0, 1) := dk_42 (by decide +kernel)
theorem dX1_lookAtMarket_29 : decode cX1_lookAtMarket 29 = .ok (.getfield 17, 3) := dk_180 (by decide +kernel)
theorem dX1_lookAtMarket_32 : decode cX1_lookAtMarket 32 = .ok (.bipush 8, 2) := dk_16 (by decide +kernel)
theorem dX1_lookAtMarket_34 : decode cX1_lookAtMarket 34 = .ok (.aload_n 1, 1) := dk_43 (by decide +kernel)
theorem dX1_lookAtMarket_35 : decode cX1_lookAtMarket 35 = .ok (.iload_n 2, 1) := dk_28 (by decide +kernel)
theorem dX1_lookAtMarket_36 : decode cX1_lookAtMarket 36 = .ok (.iconst 2, 1) := dk_5 (by decide +kernel)
theorem dX1_lookAtMarket_37 : decode cX1_lookAtMarket 37 = .ok (.invokevirtual 42, 3) := dk_182 (by decide +kernel)
theorem dX1_lookAtMarket_40 : decode cX1_lookAtMarket 40 = .ok (.iastore, 1) := dk_79 (by decide +kernel)
theorem dX1_lookAtMarket_41 : decode cX1_lookAtMarket 41 = .ok (.return_, 1) := dk_177 (by decide +kernel)
theorem dX1_lookAtTraveller_0 : decode cX1_lookAtTraveller 0 = .ok (.aload_n 0, 1) := dk_42 (by decide +kernel)
theorem dX1_lookAtTraveller_1 : decode cX1_lookAtTraveller 1 = .ok (.aload_n 1, 1) := dk_43 (by decide +kernel)
theorem dX1_lookAtTraveller_2 : decode cX1_lookAtTraveller 2 = .ok (.iload_n 2, 1) := dk_28 (by decide +kernel)
theorem dX1_lookAtTraveller_3 : decode cX1_lookAtTraveller 3 = .ok (.invokevirtual 38, 3) := dk_182 (by decide +kernel)
theorem dX1_lookAtTraveller_6 : decode cX1_lookAtTraveller 6 = .ok (.aload_n 0, 1) := dk_42 (by decide +kernel)
theorem dX1_lookAtTraveller_7 : decode cX1_lookAtTraveller 7 = .ok (.aload_n 1, 1) := dk_43 (by decide +kernel)
theorem dX1_lookAtTraveller_8 : decode cX1_lookAtTraveller 8 = .ok (.aload_n 1, 1) := dk_43 (by decide +kernel)
theorem dX1_lookAtTraveller_9 : decode cX1_lookAtTraveller 9 = .ok (.iload_n 2, 1) := dk_28 (by decide +kernel)
theorem dX1_lookAtTraveller_10 : decode cX1_lookAtTraveller 10 = .ok (.iconst 5, 1) := dk_8 (by decide +kernel)
theorem dX1_lookAtTraveller_11 : decode cX1_lookAtTraveller 11 = .ok (.invokevirtual 29, 3) := dk_182 (by decide +kernel)
theorem dX1_lookAtTraveller_14 : decode cX1_lookAtTraveller 14 = .ok (.aload_n 1, 1) := dk_43 (by decide +kernel)
theorem dX1_lookAtTraveller_15 : decode cX1_lookAtTraveller 15 = .ok (.iload_n 2, 1) := dk_28 (by decide +kernel)
theorem dX1_lookAtTraveller_16 : decode cX1_lookAtTraveller 16 = .ok (.bipush 6, 2) := dk_16 (by decide +kernel)
theorem dX1_lookAtTraveller_18 : decode cX1_lookAtTraveller 18 = .ok (.invokevirtual 29, 3) := dk_182 (by decide +kernel)
theorem dX1_lookAtTraveller_21 : decode cX1_lookAtTraveller 21 = .ok (.invokevirtual 45, 3) := dk_182 (by decide +kernel)
theorem dX1_lookAtTraveller_24 : decode cX1_lookAtTraveller 24 = .ok (.return_, 1) := dk_177 (by decide +kernel)
theorem dX1_inkCost_0 : decode cX1_inkCost 0 = .ok (.aload_n 0, 1) := dk_42 (by decide +kernel)
theorem dX1_inkCost_1 : decode cX1_inkCost 1 = .ok (.aload_n 1, 1) := dk_43 (by decide +kernel)
theorem dX1_inkCost_2 : decode cX1_inkCost 2 = .ok (.iload_n 2, 1) := dk_28 (by decide +kernel)
theorem dX1_inkCost_3 : decode cX1_inkCost 3 = .ok (.iload_n 3, 1) := dk_29 (by decide +kernel)
theorem dX1_inkCost_4 : decode cX1_inkCost 4 = .ok (.iload 4, 2) := dk_21 (by decide +kernel)
theorem dX1_inkCost_6 : decode cX1_inkCost 6 = .ok (.invokevirtual 49, 3) := dk_182 (by decide +kernel)
theorem dX1_inkCost_9 : decode cX1_inkCost 9 = .ok (.aload_n 0, 1) := dk_42 (by decide +kernel)
theorem dX1_inkCost_10 : decode cX1_inkCost 10 = .ok (.aload_n 1, 1) := dk_43 (by decide +kernel)
theorem dX1_inkCost_11 : decode cX1_inkCost 11 = .ok (.iconst 2, 1) := dk_5 (by decide +kernel)
theorem dX1_inkCost_12 : decode cX1_inkCost 12 = .ok (.invokevirtual 53, 3) := dk_182 (by decide +kernel)
theorem dX1_inkCost_15 : decode cX1_inkCost 15 = .ok (.ireturn, 1) := dk_172 (by decide +kernel)
theorem dX1_isTrue_0 : decode cX1_isTrue 0 = .ok (.aload_n 0, 1) := dk_42 (by decide +kernel)
theorem dX1_isTrue_1 : decode cX1_isTrue 1 = .ok (.aload_n 1, 1) := dk_43 (by decide +kernel)
theorem dX1_isTrue_2 : decode cX1_isTrue 2 = .ok (.iload_n 2, 1) := dk_28 (by decide +kernel)
theorem dX1_isTrue_3 : decode cX1_isTrue 3 = .ok (.invokevirtual 38, 3) := dk_182 (by decide +kernel)
theorem dX1_isTrue_6 : decode cX1_isTrue 6 = .ok (.aload_n 0, 1) := dk_42 (by decide +kernel)
theorem dX1_isTrue_7 : decode cX1_isTrue 7 = .ok (.aload_n 1, 1) := dk_43 (by decide +kernel)
theorem dX1_isTrue_8 : decode cX1_isTrue 8 = .ok (.iconst 3, 1) := dk_6 (by decide +kernel)
theorem dX1_isTrue_9 : decode cX1_isTrue 9 = .ok (.invokevirtual 53, 3) := dk_182 (by decide +kernel)
theorem dX1_isTrue_12 : decode cX1_isTrue 12 = .ok (.ifCond .eq 7, 3) := dk_153 (by decide +kernel)
theorem dX1_isTrue_15 : decode cX1_isTrue 15 = .ok (.iconst 1, 1) := dk_4 (by decide +kernel)
theorem dX1_isTrue_16 : decode cX1_isTrue 16 = .ok (.goto 4, 3) := dk_167 (by decide +kernel)
theorem dX1_isTrue_19 : decode cX1_isTrue 19 = .ok (.iconst 0, 1) := dk_3 (by decide +kernel)
theorem dX1_isTrue_20 : decode cX1_isTrue 20 = .ok (.ireturn, 1) := dk_172 (by decide +kernel)
theorem dX1_isTrueWith_0 : decode cX1_isTrueWith 0 = .ok (.aload_n 0, 1) := dk_42 (by decide +kernel)
theorem dX1_isTrueWith_1 : decode cX1_isTrueWith 1 = .ok (.aload_n 1, 1) := dk_43 (by decide +kernel)
theorem dX1_isTrueWith_2 : decode cX1_isTrueWith 2 = .ok (.iload_n 2, 1) := dk_28 (by decide +kernel)
theorem dX1_isTrueWith_3 : decode cX1_isTrueWith 3 = .ok (.invokevirtual 38, 3) := dk_182 (by decide +kernel)
theorem dX1_isTrueWith_6 : decode cX1_isTrueWith 6 = .ok (.aload_n 0, 1) := dk_42 (by decide +kernel)
theorem dX1_isTrueWith_7 : decode cX1_isTrueWith 7 = .ok (.getfield 17, 3) := dk_180 (by decide +kernel)
theorem dX1_isTrueWith_10 : decode cX1_isTrueWith 10 = .ok (.iconst 2, 1) := dk_5 (by decide +kernel)
theorem dX1_isTrueWith_11 : decode cX1_isTrueWith 11 = .ok (.iload_n 3, 1) := dk_29 (by decide +kernel)
theorem dX1_isTrueWith_12 : decode cX1_isTrueWith 12 = .ok (.iastore, 1) := dk_79 (by decide +kernel)
theorem dX1_isTrueWith_13 : decode cX1_isTrueWith 13 = .ok (.aload_n 0, 1) := dk_42 (by decide +kernel)
theorem dX1_isTrueWith_14 : decode cX1_isTrueWith 14 = .ok (.aload_n 1, 1) := dk_43 (by decide +kernel)
theorem dX1_isTrueWith_15 : decode cX1_isTrueWith 15 = .ok (.iconst 3, 1) := dk_6 (by decide +kernel)
theorem dX1_isTrueWith_16 : decode cX1_isTrueWith 16 = .ok (.invokevirtual 53, 3) := dk_182 (by decide +kernel)
theorem dX1_isTrueWith_19 : decode cX1_isTrueWith 19 = .ok (.ifCond .eq 7, 3) := dk_153 (by decide +kernel)
theorem dX1_isTrueWith_22 : decode cX1_isTrueWith 22 = .ok (.iconst 1, 1) := dk_4 (by decide +kernel)
theorem dX1_isTrueWith_23 : decode cX1_isTrueWith 23 = .ok (.goto 4, 3) := dk_167 (by decide +kernel)
theorem dX1_isTrueWith_26 : decode cX1_isTrueWith 26 = .ok (.iconst 0, 1) := dk_3 (by decide +kernel)
theorem dX1_isTrueWith_27 : decode cX1_isTrueWith 27 = .ok (.ireturn, 1) := dk_172 (by decide +kernel)
theorem dX1_rule_0 : decode cX1_rule 0 = .ok (.aload_n 0, 1) := dk_42 (by decide +kernel)
theorem dX1_rule_1 : decode cX1_rule 1 = .ok (.aload_n 1, 1) := dk_43 (by decide +kernel)
theorem dX1_rule_2 : decode cX1_rule 2 = .ok (.getfield 57, 3) := dk_180 (by decide +kernel)
theorem dX1_rule_5 : decode cX1_rule 5 = .ok (.invokevirtual 60, 3) := dk_182 (by decide +kernel)
theorem dX1_rule_8 : decode cX1_rule 8 = .ok (.astore_n 3, 1) := dk_78 (by decide +kernel)
theorem dX1_rule_9 : decode cX1_rule 9 = .ok (.aload_n 3, 1) := dk_45 (by decide +kernel)
theorem dX1_rule_10 : decode cX1_rule 10 = .ok (.ifnull 11, 3) := dk_198 (by decide +kernel)
theorem dX1_rule_13 : decode cX1_rule 13 = .ok (.aload_n 3, 1) := dk_45 (by decide +kernel)
theorem dX1_rule_14 : decode cX1_rule 14 = .ok (.iload_n 2, 1) := dk_28 (by decide +kernel)
theorem dX1_rule_15 : decode cX1_rule 15 = .ok (.invokevirtual 64, 3) := dk_182 (by decide +kernel)
theorem dX1_rule_18 : decode cX1_rule 18 = .ok (.ifCond .ne 9, 3) := dk_154 (by decide +kernel)
theorem dX1_rule_21 : decode cX1_rule 21 = .ok (.aload_n 0, 1) := dk_42 (by decide +kernel)
theorem dX1_rule_22 : decode cX1_rule 22 = .ok (.iload_n 2, 1) := dk_28 (by decide +kernel)
theorem dX1_rule_23 : decode cX1_rule 23 = .ok (.invokevirtual 68, 3) := dk_182 (by decide +kernel)
theorem dX1_rule_26 : decode cX1_rule 26 = .ok (.ireturn, 1) := dk_172 (by decide +kernel)
theorem dX1_rule_27 : decode cX1_rule 27 = .ok (.aload_n 0, 1) := dk_42 (by decide +kernel)
theorem dX1_rule_28 : decode cX1_rule 28 = .ok (.iconst 0, 1) := dk_3 (by decide +kernel)
theorem dX1_rule_29 : decode cX1_rule 29 = .ok (.putfield 24, 3) := dk_181 (by decide +kernel)
theorem dX1_rule_32 : decode cX1_rule 32 = .ok (.aload_n 3, 1) := dk_45 (by decide +kernel)
theorem dX1_rule_33 : decode cX1_rule 33 = .ok (.iload_n 2, 1) := dk_28 (by decide +kernel)
theorem dX1_rule_34 : decode cX1_rule 34 = .ok (.invokevirtual 72, 3) := dk_182 (by decide +kernel)
theorem dX1_rule_37 : decode cX1_rule 37 = .ok (.istore 4, 2) := dk_54 (by decide +kernel)
theorem dX1_rule_39 : decode cX1_rule 39 = .ok (.aload_n 3, 1) := dk_45 (by decide +kernel)
theorem dX1_rule_40 : decode cX1_rule 40 = .ok (.iload_n 2, 1) := dk_28 (by decide +kernel)
theorem dX1_rule_41 : decode cX1_rule 41 = .ok (.invokevirtual 75, 3) := dk_182 (by decide +kernel)
theorem dX1_rule_44 : decode cX1_rule 44 = .ok (.istore 5, 2) := dk_54 (by decide +kernel)
theorem dX1_rule_46 : decode cX1_rule 46 = .ok (.iload 5, 2) := dk_21 (by decide +kernel)
theorem dX1_rule_48 : decode cX1_rule 48 = .ok (.iload 4, 2) := dk_21 (by decide +kernel)
theorem dX1_rule_50 : decode cX1_rule 50 = .ok (.if_icmp .ge 19, 3) := dk_162 (by decide +kernel)
theorem dX1_rule_53 : decode cX1_rule 53 = .ok (.aload_n 0, 1) := dk_42 (by decide +kernel)
theorem dX1_rule_54 : decode cX1_rule 54 = .ok (.aload_n 3, 1) := dk_45 (by decide +kernel)
theorem dX1_rule_55 : decode cX1_rule 55 = .ok (.iload 5, 2) := dk_21 (by decide +kernel)
theorem dX1_rule_57 : decode cX1_rule 57 = .ok (.invokevirtual 78, 3) := dk_182 (by decide +kernel)
theorem dX1_rule_60 : decode cX1_rule 60 = .ok (.invokevirtual 81, 3) := dk_182 (by decide +kernel)
theorem dX1_rule_63 : decode cX1_rule 63 = .ok (.iinc 5 1, 3) := dk_132 (by decide +kernel)
theorem dX1_rule_66 : decode cX1_rule 66 = .ok (.goto (-20), 3) := dk_167 (by decide +kernel)
theorem dX1_rule_69 : decode cX1_rule 69 = .ok (.iconst 0, 1) := dk_3 (by decide +kernel)
theorem dX1_rule_70 : decode cX1_rule 70 = .ok (.iload_n 2, 1) := dk_28 (by decide +kernel)
theorem dX1_rule_71 : decode cX1_rule 71 = .ok (.iconst 2, 1) := dk_5 (by decide +kernel)
theorem dX1_rule_72 : decode cX1_rule 72 = .ok (.if_icmp .ne 8, 3) := dk_160 (by decide +kernel)
theorem dX1_rule_75 : decode cX1_rule 75 = .ok (.bipush 99, 2) := dk_16 (by decide +kernel)
theorem dX1_rule_77 : decode cX1_rule 77 = .ok (.goto 5, 3) := dk_167 (by decide +kernel)
theorem dX1_rule_80 : decode cX1_rule 80 = .ok (.bipush 10, 2) := dk_16 (by decide +kernel)
theorem dX1_rule_82 : decode cX1_rule 82 = .ok (.aload_n 0, 1) := dk_42 (by decide +kernel)
theorem dX1_rule_83 : decode cX1_rule 83 = .ok (.invokevirtual 85, 3) := dk_182 (by decide +kernel)
theorem dX1_rule_86 : decode cX1_rule 86 = .ok (.invokestatic 89, 3) := dk_184 (by decide +kernel)
theorem dX1_rule_89 : decode cX1_rule 89 = .ok (.invokestatic 94, 3) := dk_184 (by decide +kernel)
theorem dX1_rule_92 : decode cX1_rule 92 = .ok (.ireturn, 1) := dk_172 (by decide +kernel)
theorem dX1_without_0 : decode cX1_without 0 = .ok (.iload_n 1, 1) := dk_27 (by decide +kernel)
theorem dX1_without_1 : decode cX1_without 1 = .ok (.lookupswitch 43 #[(0, 27), (1, 35)], 27) := by decide +kernel
theorem dX1_without_28 : decode cX1_without 28 = .ok (.aload_n 0, 1) := dk_42 (by decide +kernel)
theorem dX1_without_29 : decode cX1_without 29 = .ok (.getfield 17, 3) := dk_180 (by decide +kernel)
theorem dX1_without_32 : decode cX1_without 32 = .ok (.bipush 7, 2) := dk_16 (by decide +kernel)
theorem dX1_without_34 : decode cX1_without 34 = .ok (.iaload, 1) := dk_46 (by decide +kernel)
theorem dX1_without_35 : decode cX1_without 35 = .ok (.ireturn, 1) := dk_172 (by decide +kernel)
theorem dX1_without_36 : decode cX1_without 36 = .ok (.aload_n 0, 1) := dk_42 (by decide +kernel)
theorem dX1_without_37 : decode cX1_without 37 = .ok (.getfield 17, 3) := dk_180 (by decide +kernel)
theorem dX1_without_40 : decode cX1_without 40 = .ok (.bipush 8, 2) := dk_16 (by decide +kernel)
theorem dX1_without_42 : decode cX1_without 42 = .ok (.iaload, 1) := dk_46 (by decide +kernel)
theorem dX1_without_43 : decode cX1_without 43 = .ok (.ireturn, 1) := dk_172 (by decide +kernel)
theorem dX1_without_44 : decode cX1_without 44 = .ok (.iconst 1, 1) := dk_4 (by decide +kernel)
theorem dX1_without_45 : decode cX1_without 45 = .ok (.ireturn, 1) := dk_172 (by decide +kernel)
theorem dX1_take_0 : decode cX1_take 0 = .ok (.iload_n 1, 1) := dk_27 (by decide +kernel)
theorem dX1_take_1 : decode cX1_take 1 = .ok (.sipush 10000, 3) := dk_17 (by decide +kernel)
theorem dX1_take_4 : decode cX1_take 4 = .ok (.if_icmp .ge 12, 3) := dk_162 (by decide +kernel)
theorem dX1_take_7 : decode cX1_take 7 = .ok (.aload_n 0, 1) := dk_42 (by decide +kernel)
theorem dX1_take_8 : decode cX1_take 8 = .ok (.iload_n 1, 1) := dk_27 (by decide +kernel)
theorem dX1_take_9 : decode cX1_take 9 = .ok (.i2l, 1) := dk_133 (by decide +kernel)
theorem dX1_take_10 : decode cX1_take 10 = .ok (.invokevirtual 97, 3) := dk_182 (by decide +kernel)
theorem dX1_take_13 : decode cX1_take 13 = .ok (.goto 115, 3) := dk_167 (by decide +kernel)
theorem dX1_take_16 : decode cX1_take 16 = .ok (.iload_n 1, 1) := dk_27 (by decide +kernel)
theorem dX1_take_17 : decode cX1_take 17 = .ok (.sipush 20000, 3) := dk_17 (by decide +kernel)
theorem dX1_take_20 : decode cX1_take 20 = .ok (.if_icmp .ge 33, 3) := dk_162 (by decide +kernel)
theorem dX1_take_23 : decode cX1_take 23 = .ok (.iload_n 1, 1) := dk_27 (by decide +kernel)
theorem dX1_take_24 : decode cX1_take 24 = .ok (.sipush 10000, 3) := dk_17 (by decide +kernel)
theorem dX1_take_27 : decode cX1_take 27 = .ok (.isub, 1) := dk_100 (by decide +kernel)
theorem dX1_take_28 : decode cX1_take 28 = .ok (.istore_n 2, 1) := dk_61 (by decide +kernel)
theorem dX1_take_29 : decode cX1_take 29 = .ok (.aload_n 0, 1) := dk_42 (by decide +kernel)
theorem dX1_take_30 : decode cX1_take 30 = .ok (.iload_n 2, 1) := dk_28 (by decide +kernel)
theorem dX1_take_31 : decode cX1_take 31 = .ok (.bipush 9, 2) := dk_16 (by decide +kernel)
theorem dX1_take_33 : decode cX1_take 33 = .ok (.if_icmp .ge 13, 3) := dk_162 (by decide +kernel)
theorem dX1_take_36 : decode cX1_take 36 = .ok (.aload_n 0, 1) := dk_42 (by decide +kernel)
theorem dX1_take_37 : decode cX1_take 37 = .ok (.getfield 17, 3) := dk_180 (by decide +kernel)
theorem dX1_take_40 : decode cX1_take 40 = .ok (.iload_n 2, 1) := dk_28 (by decide +kernel)
theorem dX1_take_41 : decode cX1_take 41 = .ok (.iaload, 1) := dk_46 (by decide +kernel)
theorem dX1_take_42 : decode cX1_take 42 = .ok (.i2l, 1) := dk_133 (by decide +kernel)
theorem dX1_take_43 : decode cX1_take 43 = .ok (.goto 4, 3) := dk_167 (by decide +kernel)
theorem dX1_take_46 : decode cX1_take 46 = .ok (.lconst 0, 1) := dk_9 (by decide +kernel)
theorem dX1_take_47 : decode cX1_take 47 = .ok (.invokevirtual 97, 3) := dk_182 (by decide +kernel)
theorem dX1_take_50 : decode cX1_take 50 = .ok (.goto 78, 3) := dk_167 (by decide +kernel)
theorem dX1_take_53 : decode cX1_take 53 = .ok (.aload_n 0, 1) := dk_42 (by decide +kernel)
theorem dX1_take_54 : decode cX1_take 54 = .ok (.invokevirtual 85, 3) := dk_182 (by decide +kernel)
theorem dX1_take_57 : decode cX1_take 57 = .ok (.istore_n 2, 1) := dk_61 (by decide +kernel)
theorem dX1_take_58 : decode cX1_take 58 = .ok (.iload_n 1, 1) := dk_27 (by decide +kernel)
theorem dX1_take_59 : decode cX1_take 59 = .ok (.sipush 20000, 3) := dk_17 (by decide +kernel)
theorem dX1_take_62 : decode cX1_take 62 = .ok (.isub, 1) := dk_100 (by decide +kernel)
theorem dX1_take_63 : decode cX1_take 63 = .ok (.lookupswitch 46 #[(28, 35), (38, 25)], 25) := by decide +kernel
theorem dX1_take_88 : decode cX1_take 88 = .ok (.aload_n 0, 1) := dk_42 (by decide +kernel)
theorem dX1_take_89 : decode cX1_take 89 = .ok (.iload_n 2, 1) := dk_28 (by decide +kernel)
theorem dX1_take_90 : decode cX1_take 90 = .ok (.ineg, 1) := dk_116 (by decide +kernel)
theorem dX1_take_91 : decode cX1_take 91 = .ok (.i2l, 1) := dk_133 (by decide +kernel)
theorem dX1_take_92 : decode cX1_take 92 = .ok (.invokevirtual 97, 3) := dk_182 (by decide +kernel)
theorem dX1_take_95 : decode cX1_take 95 = .ok (.goto 33, 3) := dk_167 (by decide +kernel)
theorem dX1_take_98 : decode cX1_take 98 = .ok (.aload_n 0, 1) := dk_42 (by decide +kernel)
theorem dX1_take_99 : decode cX1_take 99 = .ok (.iconst 1, 1) := dk_4 (by decide +kernel)
theorem dX1_take_100 : decode cX1_take 100 = .ok (.iload_n 2, 1) := dk_28 (by decide +kernel)
theorem dX1_take_101 : decode cX1_take 101 = .ok (.isub, 1) := dk_100 (by decide +kernel)
theorem dX1_take_102 : decode cX1_take 102 = .ok (.i2l, 1) := dk_133 (by decide +kernel)
theorem dX1_take_103 : decode cX1_take 103 = .ok (.invokevirtual 97, 3) := dk_182 (by decide +kernel)
theorem dX1_take_106 : decode cX1_take 106 = .ok (.goto 22, 3) := dk_167 (by decide +kernel)
theorem dX1_take_109 : decode cX1_take 109 = .ok (.aload_n 0, 1) := dk_42 (by decide +kernel)
theorem dX1_take_110 : decode cX1_take 110 = .ok (.iload_n 1, 1) := dk_27 (by decide +kernel)
theorem dX1_take_111 : decode cX1_take 111 = .ok (.sipush 20000, 3) := dk_17 (by decide +kernel)
theorem dX1_take_114 : decode cX1_take 114 = .ok (.isub, 1) := dk_100 (by decide +kernel)
theorem dX1_take_115 : decode cX1_take 115 = .ok (.aload_n 0, 1) := dk_42 (by decide +kernel)
theorem dX1_take_116 : decode cX1_take 116 = .ok (.invokevirtual 85, 3) := dk_182 (by decide +kernel)
theorem dX1_take_119 : decode cX1_take 119 = .ok (.i2l, 1) := dk_133 (by decide +kernel)
theorem dX1_take_120 : decode cX1_take 120 = .ok (.iload_n 2, 1) := dk_28 (by decide +kernel)
theorem dX1_take_121 : decode cX1_take 121 = .ok (.i2l, 1) := dk_133 (by decide +kernel)
theorem dX1_take_122 : decode cX1_take 122 = .ok (.invokestatic 101, 3) := dk_184 (by decide +kernel)
theorem dX1_take_125 : decode cX1_take 125 = .ok (.invokevirtual 97, 3) := dk_182 (by decide +kernel)
theorem dX1_take_128 : decode cX1_take 128 = .ok (.return_, 1) := dk_177 (by decide +kernel)
theorem dX1_push_0 : decode cX1_push 0 = .ok (.aload_n 0, 1) := dk_42 (by decide +kernel)
theorem dX1_push_1 : decode cX1_push 1 = .ok (.getfield 24, 3) := dk_180 (by decide +kernel)
theorem dX1_push_4 : decode cX1_push 4 = .ok (.ifCond .lt 62, 3) := dk_155 (by decide +kernel)
theorem dX1_push_7 : decode cX1_push 7 = .ok (.aload_n 0, 1) := dk_42 (by decide +kernel)
theorem dX1_push_8 : decode cX1_push 8 = .ok (.getfield 24, 3) := dk_180 (by decide +kernel)
theorem dX1_push_11 : decode cX1_push 11 = .ok (.aload_n 0, 1) := dk_42 (by decide +kernel)
theorem dX1_push_12 : decode cX1_push 12 = .ok (.getfield 21, 3) := dk_180 (by decide +kernel)
theorem dX1_push_15 : decode cX1_push 15 = .ok (.arraylength, 1) := dk_190 (by decide +kernel)
theorem dX1_push_16 : decode cX1_push 16 = .ok (.if_icmp .ge 50, 3) := dk_162 (by decide +kernel)
theorem dX1_push_19 : decode cX1_push 19 = .ok (.aload_n 0, 1) := dk_42 (by decide +kernel)
theorem dX1_push_20 : decode cX1_push 20 = .ok (.getfield 21, 3) := dk_180 (by decide +kernel)
theorem dX1_push_23 : decode cX1_push 23 = .ok (.aload_n 0, 1) := dk_42 (by decide +kernel)
theorem dX1_push_24 : decode cX1_push 24 = .ok (.getfield 24, 3) := dk_180 (by decide +kernel)
theorem dX1_push_27 : decode cX1_push 27 = .ok (.lload_n 1, 1) := dk_31 (by decide +kernel)
theorem dX1_push_28 : decode cX1_push 28 = .ok (.ldc2_w 105, 3) := dk_20 (by decide +kernel)
theorem dX1_push_31 : decode cX1_push 31 = .ok (.lcmp, 1) := dk_148 (by decide +kernel)
theorem dX1_push_32 : decode cX1_push 32 = .ok (.ifCond .le 8, 3) := dk_158 (by decide +kernel)
theorem dX1_push_35 : decode cX1_push 35 = .ok (.ldc 107, 2) := dk_18 (by decide +kernel)
theorem dX1_push_37 : decode cX1_push 37 = .ok (.goto 18, 3) := dk_167 (by decide +kernel)
theorem dX1_push_40 : decode cX1_push 40 = .ok (.lload_n 1, 1) := dk_31 (by decide +kernel)
theorem dX1_push_41 : decode cX1_push 41 = .ok (.ldc2_w 108, 3) := dk_20 (by decide +kernel)
theorem dX1_push_44 : decode cX1_push 44 = .ok (.lcmp, 1) := dk_148 (by decide +kernel)
theorem dX1_push_45 : decode cX1_push 45 = .ok (.ifCond .ge 8, 3) := dk_156 (by decide +kernel)
theorem dX1_push_48 : decode cX1_push 48 = .ok (.ldc 110, 2) := dk_18 (by decide +kernel)
theorem dX1_push_50 : decode cX1_push 50 = .ok (.goto 5, 3) := dk_167 (by decide +kernel)
theorem dX1_push_53 : decode cX1_push 53 = .ok (.lload_n 1, 1) := dk_31 (by decide +kernel)
theorem dX1_push_54 : decode cX1_push 54 = .ok (.l2i, 1) := dk_136 (by decide +kernel)
theorem dX1_push_55 : decode cX1_push 55 = .ok (.iastore, 1) := dk_79 (by decide +kernel)
theorem dX1_push_56 : decode cX1_push 56 = .ok (.aload_n 0, 1) := dk_42 (by decide +kernel)
theorem dX1_push_57 : decode cX1_push 57 = .ok (.dup, 1) := dk_89 (by decide +kernel)
theorem dX1_push_58 : decode cX1_push 58 = .ok (.getfield 24, 3) := dk_180 (by decide +kernel)
theorem dX1_push_61 : decode cX1_push 61 = .ok (.iconst 1, 1) := dk_4 (by decide +kernel)
theorem dX1_push_62 : decode cX1_push 62 = .ok (.iadd, 1) := dk_96 (by decide +kernel)
theorem dX1_push_63 : decode cX1_push 63 = .ok (.putfield 24, 3) := dk_181 (by decide +kernel)
theorem dX1_push_66 : decode cX1_push 66 = .ok (.return_, 1) := dk_177 (by decide +kernel)
theorem dX1_pop_0 : decode cX1_pop 0 = .ok (.aload_n 0, 1) := dk_42 (by decide +kernel)
theorem dX1_pop_1 : decode cX1_pop 1 = .ok (.getfield 24, 3) := dk_180 (by decide +kernel)
theorem dX1_pop_4 : decode cX1_pop 4 = .ok (.iconst 1, 1) := dk_4 (by decide +kernel)
theorem dX1_pop_5 : decode cX1_pop 5 = .ok (.if_icmp .lt 15, 3) := dk_161 (by decide +kernel)
theorem dX1_pop_8 : decode cX1_pop 8 = .ok (.aload_n 0, 1) := dk_42 (by decide +kernel)
theorem dX1_pop_9 : decode cX1_pop 9 = .ok (.getfield 24, 3) := dk_180 (by decide +kernel)
theorem dX1_pop_12 : decode cX1_pop 12 = .ok (.aload_n 0, 1) := dk_42 (by decide +kernel)
theorem dX1_pop_13 : decode cX1_pop 13 = .ok (.getfield 21, 3) := dk_180 (by decide +kernel)
theorem dX1_pop_16 : decode cX1_pop 16 = .ok (.arraylength, 1) := dk_190 (by decide +kernel)
theorem dX1_pop_17 : decode cX1_pop 17 = .ok (.if_icmp .le 5, 3) := dk_164 (by decide +kernel)
theorem dX1_pop_20 : decode cX1_pop 20 = .ok (.iconst 0, 1) := dk_3 (by decide +kernel)
theorem dX1_pop_21 : decode cX1_pop 21 = .ok (.ireturn, 1) := dk_172 (by decide +kernel)
theorem dX1_pop_22 : decode cX1_pop 22 = .ok (.aload_n 0, 1) := dk_42 (by decide +kernel)
theorem dX1_pop_23 : decode cX1_pop 23 = .ok (.dup, 1) := dk_89 (by decide +kernel)
theorem dX1_pop_24 : decode cX1_pop 24 = .ok (.getfield 24, 3) := dk_180 (by decide +kernel)
theorem dX1_pop_27 : decode cX1_pop 27 = .ok (.iconst 1, 1) := dk_4 (by decide +kernel)
theorem dX1_pop_28 : decode cX1_pop 28 = .ok (.isub, 1) := dk_100 (by decide +kernel)
theorem dX1_pop_29 : decode cX1_pop 29 = .ok (.putfield 24, 3) := dk_181 (by decide +kernel)
theorem dX1_pop_32 : decode cX1_pop 32 = .ok (.aload_n 0, 1) := dk_42 (by decide +kernel)
theorem dX1_pop_33 : decode cX1_pop 33 = .ok (.getfield 21, 3) := dk_180 (by decide +kernel)
theorem dX1_pop_36 : decode cX1_pop 36 = .ok (.aload_n 0, 1) := dk_42 (by decide +kernel)
theorem dX1_pop_37 : decode cX1_pop 37 = .ok (.getfield 24, 3) := dk_180 (by decide +kernel)
theorem dX1_pop_40 : decode cX1_pop 40 = .ok (.iaload, 1) := dk_46 (by decide +kernel)
theorem dX1_pop_41 : decode cX1_pop 41 = .ok (.ireturn, 1) := dk_172 (by decide +kernel)
theorem dX1_joined_0 : decode cX1_joined 0 = .ok (.iload_n 0, 1) := dk_26 (by decide +kernel)
theorem dX1_joined_1 : decode cX1_joined 1 = .ok (.tableswitch 217 3 27 #[141, 153, 165, 177, 189, 201, 115, 119, 123, 127, 217, 217, 217, 217, 217, 217, 217, 217, 217, 217, 217, 217, 217, 217, 213], 115) := by decide +kernel
theorem dX1_joined_116 : decode cX1_joined 116 = .ok (.lload_n 1, 1) := dk_31 (by decide +kernel)
theorem dX1_joined_117 : decode cX1_joined 117 = .ok (.lload_n 3, 1) := dk_33 (by decide +kernel)
theorem dX1_joined_118 : decode cX1_joined 118 = .ok (.ladd, 1) := dk_97 (by decide +kernel)
theorem dX1_joined_119 : decode cX1_joined 119 = .ok (.lreturn, 1) := dk_173 (by decide +kernel)
theorem dX1_joined_120 : decode cX1_joined 120 = .ok (.lload_n 1, 1) := dk_31 (by decide +kernel)
theorem dX1_joined_121 : decode cX1_joined 121 = .ok (.lload_n 3, 1) := dk_33 (by decide +kernel)
theorem dX1_joined_122 : decode cX1_joined 122 = .ok (.lsub, 1) := dk_101 (by decide +kernel)
theorem dX1_joined_123 : decode cX1_joined 123 = .ok (.lreturn, 1) := dk_173 (by decide +kernel)
theorem dX1_joined_124 : decode cX1_joined 124 = .ok (.lload_n 1, 1) := dk_31 (by decide +kernel)
theorem dX1_joined_125 : decode cX1_joined 125 = .ok (.lload_n 3, 1) := dk_33 (by decide +kernel)
theorem dX1_joined_126 : decode cX1_joined 126 = .ok (.lmul, 1) := dk_105 (by decide +kernel)
theorem dX1_joined_127 : decode cX1_joined 127 = .ok (.lreturn, 1) := dk_173 (by decide +kernel)
theorem dX1_joined_128 : decode cX1_joined 128 = .ok (.lload_n 3, 1) := dk_33 (by decide +kernel)
theorem dX1_joined_129 : decode cX1_joined 129 = .ok (.lconst 0, 1) := dk_9 (by decide +kernel)
theorem dX1_joined_130 : decode cX1_joined 130 = .ok (.lcmp, 1) := dk_148 (by decide +kernel)
theorem dX1_joined_131 : decode cX1_joined 131 = .ok (.ifCond .ne 7, 3) := dk_154 (by decide +kernel)
theorem dX1_joined_134 : decode cX1_joined 134 = .ok (.lconst 0, 1) := dk_9 (by decide +kernel)
theorem dX1_joined_135 : decode cX1_joined 135 = .ok (.goto 6, 3) := dk_167 (by decide +kernel)
theorem dX1_joined_138 : decode cX1_joined 138 = .ok (.lload_n 1, 1) := dk_31 (by decide +kernel)
theorem dX1_joined_139 : decode cX1_joined 139 = .ok (.lload_n 3, 1) := dk_33 (by decide +kernel)
theorem dX1_joined_140 : decode cX1_joined 140 = .ok (.ldiv, 1) := dk_109 (by decide +kernel)
theorem dX1_joined_141 : decode cX1_joined 141 = .ok (.lreturn, 1) := dk_173 (by decide +kernel)
theorem dX1_joined_142 : decode cX1_joined 142 = .ok (.lload_n 1, 1) := dk_31 (by decide +kernel)
theorem dX1_joined_143 : decode cX1_joined 143 = .ok (.lload_n 3, 1) := dk_33 (by decide +kernel)
theorem dX1_joined_144 : decode cX1_joined 144 = .ok (.lcmp, 1) := dk_148 (by decide +kernel)
theorem dX1_joined_145 : decode cX1_joined 145 = .ok (.ifCond .ge 7, 3) := dk_156 (by decide +kernel)
theorem dX1_joined_148 : decode cX1_joined 148 = .ok (.lconst 1, 1) := dk_10 (by decide +kernel)
theorem dX1_joined_149 : decode cX1_joined 149 = .ok (.goto 4, 3) := dk_167 (by decide +kernel)
theorem dX1_joined_152 : decode cX1_joined 152 = .ok (.lconst 0, 1) := dk_9 (by decide +kernel)
theorem dX1_joined_153 : decode cX1_joined 153 = .ok (.lreturn, 1) := dk_173 (by decide +kernel)
theorem dX1_joined_154 : decode cX1_joined 154 = .ok (.lload_n 1, 1) := dk_31 (by decide +kernel)
theorem dX1_joined_155 : decode cX1_joined 155 = .ok (.lload_n 3, 1) := dk_33 (by decide +kernel)
theorem dX1_joined_156 : decode cX1_joined 156 = .ok (.lcmp, 1) := dk_148 (by decide +kernel)
theorem dX1_joined_157 : decode cX1_joined 157 = .ok (.ifCond .gt 7, 3) := dk_157 (by decide +kernel)
theorem dX1_joined_160 : decode cX1_joined 160 = .ok (.lconst 1, 1) := dk_10 (by decide +kernel)
theorem dX1_joined_161 : decode cX1_joined 161 = .ok (.goto 4, 3) := dk_167 (by decide +kernel)
theorem dX1_joined_164 : decode cX1_joined 164 = .ok (.lconst 0, 1) := dk_9 (by decide +kernel)
theorem dX1_joined_165 : decode cX1_joined 165 = .ok (.lreturn, 1) := dk_173 (by decide +kernel)
theorem dX1_joined_166 : decode cX1_joined 166 = .ok (.lload_n 1, 1) := dk_31 (by decide +kernel)
theorem dX1_joined_167 : decode cX1_joined 167 = .ok (.lload_n 3, 1) := dk_33 (by decide +kernel)
theorem dX1_joined_168 : decode cX1_joined 168 = .ok (.lcmp, 1) := dk_148 (by decide +kernel)
theorem dX1_joined_169 : decode cX1_joined 169 = .ok (.ifCond .le 7, 3) := dk_158 (by decide +kernel)
theorem dX1_joined_172 : decode cX1_joined 172 = .ok (.lconst 1, 1) := dk_10 (by decide +kernel)
theorem dX1_joined_173 : decode cX1_joined 173 = .ok (.goto 4, 3) := dk_167 (by decide +kernel)
theorem dX1_joined_176 : decode cX1_joined 176 = .ok (.lconst 0, 1) := dk_9 (by decide +kernel)
theorem dX1_joined_177 : decode cX1_joined 177 = .ok (.lreturn, 1) := dk_173 (by decide +kernel)
theorem dX1_joined_178 : decode cX1_joined 178 = .ok (.lload_n 1, 1) := dk_31 (by decide +kernel)
theorem dX1_joined_179 : decode cX1_joined 179 = .ok (.lload_n 3, 1) := dk_33 (by decide +kernel)
theorem dX1_joined_180 : decode cX1_joined 180 = .ok (.lcmp, 1) := dk_148 (by decide +kernel)
theorem dX1_joined_181 : decode cX1_joined 181 = .ok (.ifCond .lt 7, 3) := dk_155 (by decide +kernel)
theorem dX1_joined_184 : decode cX1_joined 184 = .ok (.lconst 1, 1) := dk_10 (by decide +kernel)
theorem dX1_joined_185 : decode cX1_joined 185 = .ok (.goto 4, 3) := dk_167 (by decide +kernel)
theorem dX1_joined_188 : decode cX1_joined 188 = .ok (.lconst 0, 1) := dk_9 (by decide +kernel)
theorem dX1_joined_189 : decode cX1_joined 189 = .ok (.lreturn, 1) := dk_173 (by decide +kernel)
theorem dX1_joined_190 : decode cX1_joined 190 = .ok (.lload_n 1, 1) := dk_31 (by decide +kernel)
theorem dX1_joined_191 : decode cX1_joined 191 = .ok (.lload_n 3, 1) := dk_33 (by decide +kernel)
theorem dX1_joined_192 : decode cX1_joined 192 = .ok (.lcmp, 1) := dk_148 (by decide +kernel)
theorem dX1_joined_193 : decode cX1_joined 193 = .ok (.ifCond .ne 7, 3) := dk_154 (by decide +kernel)
theorem dX1_joined_196 : decode cX1_joined 196 = .ok (.lconst 1, 1) := dk_10 (by decide +kernel)
theorem dX1_joined_197 : decode cX1_joined 197 = .ok (.goto 4, 3) := dk_167 (by decide +kernel)
theorem dX1_joined_200 : decode cX1_joined 200 = .ok (.lconst 0, 1) := dk_9 (by decide +kernel)
theorem dX1_joined_201 : decode cX1_joined 201 = .ok (.lreturn, 1) := dk_173 (by decide +kernel)
theorem dX1_joined_202 : decode cX1_joined 202 = .ok (.lload_n 1, 1) := dk_31 (by decide +kernel)
theorem dX1_joined_203 : decode cX1_joined 203 = .ok (.lload_n 3, 1) := dk_33 (by decide +kernel)
theorem dX1_joined_204 : decode cX1_joined 204 = .ok (.lcmp, 1) := dk_148 (by decide +kernel)
theorem dX1_joined_205 : decode cX1_joined 205 = .ok (.ifCond .eq 7, 3) := dk_153 (by decide +kernel)
theorem dX1_joined_208 : decode cX1_joined 208 = .ok (.lconst 1, 1) := dk_10 (by decide +kernel)
theorem dX1_joined_209 : decode cX1_joined 209 = .ok (.goto 4, 3) := dk_167 (by decide +kernel)
theorem dX1_joined_212 : decode cX1_joined 212 = .ok (.lconst 0, 1) := dk_9 (by decide +kernel)
theorem dX1_joined_213 : decode cX1_joined 213 = .ok (.lreturn, 1) := dk_173 (by decide +kernel)
theorem dX1_joined_214 : decode cX1_joined 214 = .ok (.lload_n 1, 1) := dk_31 (by decide +kernel)
theorem dX1_joined_215 : decode cX1_joined 215 = .ok (.lload_n 3, 1) := dk_33 (by decide +kernel)
theorem dX1_joined_216 : decode cX1_joined 216 = .ok (.land, 1) := dk_127 (by decide +kernel)
theorem dX1_joined_217 : decode cX1_joined 217 = .ok (.lreturn, 1) := dk_173 (by decide +kernel)
theorem dX1_joined_218 : decode cX1_joined 218 = .ok (.lload_n 1, 1) := dk_31 (by decide +kernel)
theorem dX1_joined_219 : decode cX1_joined 219 = .ok (.lload_n 3, 1) := dk_33 (by decide +kernel)
theorem dX1_joined_220 : decode cX1_joined 220 = .ok (.lor, 1) := dk_129 (by decide +kernel)
theorem dX1_joined_221 : decode cX1_joined 221 = .ok (.lreturn, 1) := dk_173 (by decide +kernel)
