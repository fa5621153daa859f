/-! a row an opcode: what decode answers, out of the bytes alone -/
def ub (c : ByteArray) (p : Nat) : Nat := match c.data.toList[p]? with
  | some x => x.toNat
  | none => 256
theorem ub_u1 {c : ByteArray} {p b : Nat} (h : ub c p = b) (hb : b < 256) : (Reader.u1 : Decoder Nat) c p = .ok (b, p + 1) := by
  have e : (Reader.u1 : Decoder Nat) c p = (if h : p < c.size then .ok (c[p].toNat, p + 1) else .error (HasTruncated.truncated p)) := by
    show (do if h : p < c.size then do set (p + 1); Pure.pure c[p].toNat else MonadExcept.throw (HasTruncated.truncated p) : Decoder Nat) c p = _
    by_cases hi : p < c.size
    · rw [dif_pos hi, dif_pos hi]; rfl
    · rw [dif_neg hi, dif_neg hi]; rfl
  unfold ub at h
  cases hx : c.data.toList[p]? with
  | none => rw [hx] at h; have h : 256 = b := h; omega
  | some x =>
    rw [hx] at h
    have h : x.toNat = b := h
    obtain ⟨h1, h2⟩ := List.getElem?_eq_some_iff.mp hx
    have hs : p < c.size := by simpa using h1
    have hc : c[p] = x := h2
    rw [e, dif_pos hs, hc, h]
theorem dk_bind {α β : Type} {r : Decoder α} {f : α → Decoder β} {c : ByteArray} {p s : Nat} {a : α} {y : Except DecodeError (β × Nat)} (h : r c p = .ok (a, s)) (g : f a c s = y) : (r >>= f) c p = y := by
  show (do let (a, s) ← r c p; f a c s : Except DecodeError (β × Nat)) = y
  rw [h]; exact g
theorem dk_map {α β : Type} {r : Decoder α} {f : α → β} {c : ByteArray} {p s : Nat} {a : α} (h : r c p = .ok (a, s)) : (f <$> r) c p = .ok (f a, s) := by
  show (do let (a, s) ← r c p; .ok (f a, s) : Except DecodeError (β × Nat)) = _
  rw [h]; rfl
theorem dk_of {c : ByteArray} {p n : Nat} {i : Instr} (h : Decoder.instr p c p = .ok (i, p + n)) : decode c p = .ok (i, n) := by
  show (do let (i, s) ← Decoder.instr p c p; .ok (i, s - p) : Except DecodeError (Instr × Nat)) = _
  rw [h]
  show Except.ok (i, p + n - p) = _
  rw [Nat.add_sub_cancel_left]
def ck0 (c : ByteArray) (p k : Nat) : Bool := Nat.beq (ub c p) k
def ck1 (c : ByteArray) (p k a : Nat) : Bool := Nat.beq (ub c p) k && (Nat.blt a 256 && Nat.beq (ub c (p + 1)) a)
def ck1s (c : ByteArray) (p k : Nat) (v : Int) : Bool := Nat.beq (ub c p) k && (Nat.blt (ub c (p + 1)) 256 && decide (Reader.signed 8 (ub c (p + 1)) = v))
def ck2 (c : ByteArray) (p k n : Nat) : Bool := Nat.beq (ub c p) k && (Nat.blt (ub c (p + 1)) 256 && (Nat.blt (ub c (p + 2)) 256 && Nat.beq (ub c (p + 1) * 256 + ub c (p + 2)) n))
def ck2s (c : ByteArray) (p k : Nat) (v : Int) : Bool := Nat.beq (ub c p) k && (Nat.blt (ub c (p + 1)) 256 && (Nat.blt (ub c (p + 2)) 256 && decide (Reader.signed 16 (ub c (p + 1) * 256 + ub c (p + 2)) = v)))
def cki (c : ByteArray) (p a : Nat) (v : Int) : Bool := ck1 c p 132 a && (Nat.blt (ub c (p + 2)) 256 && decide (Reader.signed 8 (ub c (p + 2)) = v))
theorem ck_and {a b : Bool} (h : (a && b) = true) : a = true ∧ b = true := by cases a <;> cases b <;> first | exact ⟨rfl, rfl⟩ | cases h
theorem ck_lt {a b : Nat} (h : Nat.blt a b = true) : a < b := Nat.le_of_ble_eq_true h
theorem ck0_u {c : ByteArray} {p k : Nat} (h : ck0 c p k = true) (hk : k < 256) : (Reader.u1 : Decoder Nat) c p = .ok (k, p + 1) := ub_u1 (Nat.eq_of_beq_eq_true h) hk
theorem ck1_u {c : ByteArray} {p k a : Nat} (h : ck1 c p k a = true) (hk : k < 256) : (Reader.u1 : Decoder Nat) c p = .ok (k, p + 1) ∧ (Reader.u1 : Decoder Nat) c (p + 1) = .ok (a, p + 2) := by
  obtain ⟨h1, h2⟩ := ck_and h
  obtain ⟨h2, h3⟩ := ck_and h2
  exact ⟨ck0_u h1 hk, ub_u1 (Nat.eq_of_beq_eq_true h3) (ck_lt h2)⟩
theorem ck1s_u {c : ByteArray} {p k : Nat} {v : Int} (h : ck1s c p k v = true) (hk : k < 256) : (Reader.u1 : Decoder Nat) c p = .ok (k, p + 1) ∧ (Reader.s1 : Decoder Int) c (p + 1) = .ok (v, p + 2) := by
  obtain ⟨h1, h2⟩ := ck_and h
  obtain ⟨h2, h3⟩ := ck_and h2
  have h3 : Reader.signed 8 (ub c (p + 1)) = v := of_decide_eq_true h3
  refine ⟨ck0_u h1 hk, ?_⟩
  have e := dk_map (f := Reader.signed 8) (ub_u1 (c := c) (p := p + 1) rfl (ck_lt h2))
  rw [h3] at e
  exact e
theorem ck2_w {c : ByteArray} {p : Nat} (h1 : Nat.blt (ub c (p + 1)) 256 = true) (h2 : Nat.blt (ub c (p + 2)) 256 = true) : (Reader.u2 : Decoder Nat) c (p + 1) = .ok (ub c (p + 1) * 256 + ub c (p + 2), p + 3) := dk_bind (ub_u1 rfl (ck_lt h1)) (dk_bind (ub_u1 (c := c) (p := p + 2) rfl (ck_lt h2)) rfl)
theorem ck2_u {c : ByteArray} {p k n : Nat} (h : ck2 c p k n = true) (hk : k < 256) : (Reader.u1 : Decoder Nat) c p = .ok (k, p + 1) ∧ (Reader.u2 : Decoder Nat) c (p + 1) = .ok (n, p + 3) := by
  obtain ⟨h1, h2⟩ := ck_and h
  obtain ⟨h2, h3⟩ := ck_and h2
  obtain ⟨h3, h4⟩ := ck_and h3
  have e := ck2_w h2 h3
  rw [Nat.eq_of_beq_eq_true h4] at e
  exact ⟨ck0_u h1 hk, e⟩
theorem ck2s_u {c : ByteArray} {p k : Nat} {v : Int} (h : ck2s c p k v = true) (hk : k < 256) : (Reader.u1 : Decoder Nat) c p = .ok (k, p + 1) ∧ (Reader.s2 : Decoder Int) c (p + 1) = .ok (v, p + 3) := by
  obtain ⟨h1, h2⟩ := ck_and h
  obtain ⟨h2, h3⟩ := ck_and h2
  obtain ⟨h3, h4⟩ := ck_and h3
  have h4 : Reader.signed 16 (ub c (p + 1) * 256 + ub c (p + 2)) = v := of_decide_eq_true h4
  have e := dk_map (f := Reader.signed 16) (ck2_w h2 h3)
  rw [h4] at e
  exact ⟨ck0_u h1 hk, e⟩
theorem dk_1 {c : ByteArray} {p : Nat} (h : ck0 c p 1 = true) : decode c p = .ok (.aconst_null, 1) := by
  refine dk_of ?_
  unfold Decoder.instr
  exact dk_bind (ck0_u h (by decide)) rfl
theorem dk_2 {c : ByteArray} {p : Nat} (h : ck0 c p 2 = true) : decode c p = .ok (.iconst (-1), 1) := by
  refine dk_of ?_
  unfold Decoder.instr
  exact dk_bind (ck0_u h (by decide)) rfl
theorem dk_3 {c : ByteArray} {p : Nat} (h : ck0 c p 3 = true) : decode c p = .ok (.iconst 0, 1) := by
  refine dk_of ?_
  unfold Decoder.instr
  exact dk_bind (ck0_u h (by decide)) rfl
theorem dk_188_4 {c : ByteArray} {p : Nat} (h : ck1 c p 188 4 = true) : decode c p = .ok (.newarray .boolean, 2) := by
  refine dk_of ?_
  unfold Decoder.instr
  exact dk_bind (ck1_u h (by decide)).1 (dk_bind (ck1_u h (by decide)).2 rfl)
theorem dk_4 {c : ByteArray} {p : Nat} (h : ck0 c p 4 = true) : decode c p = .ok (.iconst 1, 1) := by
  refine dk_of ?_
  unfold Decoder.instr
  exact dk_bind (ck0_u h (by decide)) rfl
theorem dk_5 {c : ByteArray} {p : Nat} (h : ck0 c p 5 = true) : decode c p = .ok (.iconst 2, 1) := by
  refine dk_of ?_
  unfold Decoder.instr
  exact dk_bind (ck0_u h (by decide)) rfl
theorem dk_6 {c : ByteArray} {p : Nat} (h : ck0 c p 6 = true) : decode c p = .ok (.iconst 3, 1) := by
  refine dk_of ?_
  unfold Decoder.instr
  exact dk_bind (ck0_u h (by decide)) rfl
theorem dk_7 {c : ByteArray} {p : Nat} (h : ck0 c p 7 = true) : decode c p = .ok (.iconst 4, 1) := by
  refine dk_of ?_
  unfold Decoder.instr
  exact dk_bind (ck0_u h (by decide)) rfl
theorem dk_188_8 {c : ByteArray} {p : Nat} (h : ck1 c p 188 8 = true) : decode c p = .ok (.newarray .byte, 2) := by
  refine dk_of ?_
  unfold Decoder.instr
  exact dk_bind (ck1_u h (by decide)).1 (dk_bind (ck1_u h (by decide)).2 rfl)
theorem dk_8 {c : ByteArray} {p : Nat} (h : ck0 c p 8 = true) : decode c p = .ok (.iconst 5, 1) := by
  refine dk_of ?_
  unfold Decoder.instr
  exact dk_bind (ck0_u h (by decide)) rfl
theorem dk_9 {c : ByteArray} {p : Nat} (h : ck0 c p 9 = true) : decode c p = .ok (.lconst 0, 1) := by
  refine dk_of ?_
  unfold Decoder.instr
  exact dk_bind (ck0_u h (by decide)) rfl
theorem dk_188_10 {c : ByteArray} {p : Nat} (h : ck1 c p 188 10 = true) : decode c p = .ok (.newarray .int, 2) := by
  refine dk_of ?_
  unfold Decoder.instr
  exact dk_bind (ck1_u h (by decide)).1 (dk_bind (ck1_u h (by decide)).2 rfl)
theorem dk_10 {c : ByteArray} {p : Nat} (h : ck0 c p 10 = true) : decode c p = .ok (.lconst 1, 1) := by
  refine dk_of ?_
  unfold Decoder.instr
  exact dk_bind (ck0_u h (by decide)) rfl
theorem dk_188_11 {c : ByteArray} {p : Nat} (h : ck1 c p 188 11 = true) : decode c p = .ok (.newarray .long, 2) := by
  refine dk_of ?_
  unfold Decoder.instr
  exact dk_bind (ck1_u h (by decide)).1 (dk_bind (ck1_u h (by decide)).2 rfl)
theorem dk_16 {c : ByteArray} {p : Nat} {v : Int} (h : ck1s c p 16 v = true) : decode c p = .ok (.bipush v, 2) := by
  refine dk_of ?_
  unfold Decoder.instr
  exact dk_bind (ck1s_u h (by decide)).1 (dk_bind (ck1s_u h (by decide)).2 rfl)
theorem dk_17 {c : ByteArray} {p : Nat} {v : Int} (h : ck2s c p 17 v = true) : decode c p = .ok (.sipush v, 3) := by
  refine dk_of ?_
  unfold Decoder.instr
  exact dk_bind (ck2s_u h (by decide)).1 (dk_bind (ck2s_u h (by decide)).2 rfl)
theorem dk_18 {c : ByteArray} {p n : Nat} (h : ck1 c p 18 n = true) : decode c p = .ok (.ldc n, 2) := by
  refine dk_of ?_
  unfold Decoder.instr
  exact dk_bind (ck1_u h (by decide)).1 (dk_bind (ck1_u h (by decide)).2 rfl)
theorem dk_20 {c : ByteArray} {p n : Nat} (h : ck2 c p 20 n = true) : decode c p = .ok (.ldc2_w n, 3) := by
  refine dk_of ?_
  unfold Decoder.instr
  exact dk_bind (ck2_u h (by decide)).1 (dk_bind (ck2_u h (by decide)).2 rfl)
theorem dk_21 {c : ByteArray} {p n : Nat} (h : ck1 c p 21 n = true) : decode c p = .ok (.iload n, 2) := by
  refine dk_of ?_
  unfold Decoder.instr
  exact dk_bind (ck1_u h (by decide)).1 (dk_bind (ck1_u h (by decide)).2 rfl)
theorem dk_22 {c : ByteArray} {p n : Nat} (h : ck1 c p 22 n = true) : decode c p = .ok (.lload n, 2) := by
  refine dk_of ?_
  unfold Decoder.instr
  exact dk_bind (ck1_u h (by decide)).1 (dk_bind (ck1_u h (by decide)).2 rfl)
theorem dk_26 {c : ByteArray} {p : Nat} (h : ck0 c p 26 = true) : decode c p = .ok (.iload_n 0, 1) := by
  refine dk_of ?_
  unfold Decoder.instr
  exact dk_bind (ck0_u h (by decide)) rfl
theorem dk_27 {c : ByteArray} {p : Nat} (h : ck0 c p 27 = true) : decode c p = .ok (.iload_n 1, 1) := by
  refine dk_of ?_
  unfold Decoder.instr
  exact dk_bind (ck0_u h (by decide)) rfl
theorem dk_28 {c : ByteArray} {p : Nat} (h : ck0 c p 28 = true) : decode c p = .ok (.iload_n 2, 1) := by
  refine dk_of ?_
  unfold Decoder.instr
  exact dk_bind (ck0_u h (by decide)) rfl
theorem dk_29 {c : ByteArray} {p : Nat} (h : ck0 c p 29 = true) : decode c p = .ok (.iload_n 3, 1) := by
  refine dk_of ?_
  unfold Decoder.instr
  exact dk_bind (ck0_u h (by decide)) rfl
theorem dk_30 {c : ByteArray} {p : Nat} (h : ck0 c p 30 = true) : decode c p = .ok (.lload_n 0, 1) := by
  refine dk_of ?_
  unfold Decoder.instr
  exact dk_bind (ck0_u h (by decide)) rfl
theorem dk_31 {c : ByteArray} {p : Nat} (h : ck0 c p 31 = true) : decode c p = .ok (.lload_n 1, 1) := by
  refine dk_of ?_
  unfold Decoder.instr
  exact dk_bind (ck0_u h (by decide)) rfl
theorem dk_32 {c : ByteArray} {p : Nat} (h : ck0 c p 32 = true) : decode c p = .ok (.lload_n 2, 1) := by
  refine dk_of ?_
  unfold Decoder.instr
  exact dk_bind (ck0_u h (by decide)) rfl
theorem dk_33 {c : ByteArray} {p : Nat} (h : ck0 c p 33 = true) : decode c p = .ok (.lload_n 3, 1) := by
  refine dk_of ?_
  unfold Decoder.instr
  exact dk_bind (ck0_u h (by decide)) rfl
theorem dk_42 {c : ByteArray} {p : Nat} (h : ck0 c p 42 = true) : decode c p = .ok (.aload_n 0, 1) := by
  refine dk_of ?_
  unfold Decoder.instr
  exact dk_bind (ck0_u h (by decide)) rfl
theorem dk_43 {c : ByteArray} {p : Nat} (h : ck0 c p 43 = true) : decode c p = .ok (.aload_n 1, 1) := by
  refine dk_of ?_
  unfold Decoder.instr
  exact dk_bind (ck0_u h (by decide)) rfl
theorem dk_44 {c : ByteArray} {p : Nat} (h : ck0 c p 44 = true) : decode c p = .ok (.aload_n 2, 1) := by
  refine dk_of ?_
  unfold Decoder.instr
  exact dk_bind (ck0_u h (by decide)) rfl
theorem dk_45 {c : ByteArray} {p : Nat} (h : ck0 c p 45 = true) : decode c p = .ok (.aload_n 3, 1) := by
  refine dk_of ?_
  unfold Decoder.instr
  exact dk_bind (ck0_u h (by decide)) rfl
theorem dk_46 {c : ByteArray} {p : Nat} (h : ck0 c p 46 = true) : decode c p = .ok (.iaload, 1) := by
  refine dk_of ?_
  unfold Decoder.instr
  exact dk_bind (ck0_u h (by decide)) rfl
theorem dk_47 {c : ByteArray} {p : Nat} (h : ck0 c p 47 = true) : decode c p = .ok (.laload, 1) := by
  refine dk_of ?_
  unfold Decoder.instr
  exact dk_bind (ck0_u h (by decide)) rfl
theorem dk_50 {c : ByteArray} {p : Nat} (h : ck0 c p 50 = true) : decode c p = .ok (.aaload, 1) := by
  refine dk_of ?_
  unfold Decoder.instr
  exact dk_bind (ck0_u h (by decide)) rfl
theorem dk_51 {c : ByteArray} {p : Nat} (h : ck0 c p 51 = true) : decode c p = .ok (.baload, 1) := by
  refine dk_of ?_
  unfold Decoder.instr
  exact dk_bind (ck0_u h (by decide)) rfl
theorem dk_54 {c : ByteArray} {p n : Nat} (h : ck1 c p 54 n = true) : decode c p = .ok (.istore n, 2) := by
  refine dk_of ?_
  unfold Decoder.instr
  exact dk_bind (ck1_u h (by decide)).1 (dk_bind (ck1_u h (by decide)).2 rfl)
theorem dk_55 {c : ByteArray} {p n : Nat} (h : ck1 c p 55 n = true) : decode c p = .ok (.lstore n, 2) := by
  refine dk_of ?_
  unfold Decoder.instr
  exact dk_bind (ck1_u h (by decide)).1 (dk_bind (ck1_u h (by decide)).2 rfl)
theorem dk_60 {c : ByteArray} {p : Nat} (h : ck0 c p 60 = true) : decode c p = .ok (.istore_n 1, 1) := by
  refine dk_of ?_
  unfold Decoder.instr
  exact dk_bind (ck0_u h (by decide)) rfl
theorem dk_61 {c : ByteArray} {p : Nat} (h : ck0 c p 61 = true) : decode c p = .ok (.istore_n 2, 1) := by
  refine dk_of ?_
  unfold Decoder.instr
  exact dk_bind (ck0_u h (by decide)) rfl
theorem dk_62 {c : ByteArray} {p : Nat} (h : ck0 c p 62 = true) : decode c p = .ok (.istore_n 3, 1) := by
  refine dk_of ?_
  unfold Decoder.instr
  exact dk_bind (ck0_u h (by decide)) rfl
theorem dk_64 {c : ByteArray} {p : Nat} (h : ck0 c p 64 = true) : decode c p = .ok (.lstore_n 1, 1) := by
  refine dk_of ?_
  unfold Decoder.instr
  exact dk_bind (ck0_u h (by decide)) rfl
theorem dk_65 {c : ByteArray} {p : Nat} (h : ck0 c p 65 = true) : decode c p = .ok (.lstore_n 2, 1) := by
  refine dk_of ?_
  unfold Decoder.instr
  exact dk_bind (ck0_u h (by decide)) rfl
theorem dk_66 {c : ByteArray} {p : Nat} (h : ck0 c p 66 = true) : decode c p = .ok (.lstore_n 3, 1) := by
  refine dk_of ?_
  unfold Decoder.instr
  exact dk_bind (ck0_u h (by decide)) rfl
theorem dk_76 {c : ByteArray} {p : Nat} (h : ck0 c p 76 = true) : decode c p = .ok (.astore_n 1, 1) := by
  refine dk_of ?_
  unfold Decoder.instr
  exact dk_bind (ck0_u h (by decide)) rfl
theorem dk_77 {c : ByteArray} {p : Nat} (h : ck0 c p 77 = true) : decode c p = .ok (.astore_n 2, 1) := by
  refine dk_of ?_
  unfold Decoder.instr
  exact dk_bind (ck0_u h (by decide)) rfl
theorem dk_78 {c : ByteArray} {p : Nat} (h : ck0 c p 78 = true) : decode c p = .ok (.astore_n 3, 1) := by
  refine dk_of ?_
  unfold Decoder.instr
  exact dk_bind (ck0_u h (by decide)) rfl
theorem dk_79 {c : ByteArray} {p : Nat} (h : ck0 c p 79 = true) : decode c p = .ok (.iastore, 1) := by
  refine dk_of ?_
  unfold Decoder.instr
  exact dk_bind (ck0_u h (by decide)) rfl
theorem dk_80 {c : ByteArray} {p : Nat} (h : ck0 c p 80 = true) : decode c p = .ok (.lastore, 1) := by
  refine dk_of ?_
  unfold Decoder.instr
  exact dk_bind (ck0_u h (by decide)) rfl
theorem dk_83 {c : ByteArray} {p : Nat} (h : ck0 c p 83 = true) : decode c p = .ok (.aastore, 1) := by
  refine dk_of ?_
  unfold Decoder.instr
  exact dk_bind (ck0_u h (by decide)) rfl
theorem dk_84 {c : ByteArray} {p : Nat} (h : ck0 c p 84 = true) : decode c p = .ok (.bastore, 1) := by
  refine dk_of ?_
  unfold Decoder.instr
  exact dk_bind (ck0_u h (by decide)) rfl
theorem dk_87 {c : ByteArray} {p : Nat} (h : ck0 c p 87 = true) : decode c p = .ok (.pop, 1) := by
  refine dk_of ?_
  unfold Decoder.instr
  exact dk_bind (ck0_u h (by decide)) rfl
theorem dk_88 {c : ByteArray} {p : Nat} (h : ck0 c p 88 = true) : decode c p = .ok (.pop2, 1) := by
  refine dk_of ?_
  unfold Decoder.instr
  exact dk_bind (ck0_u h (by decide)) rfl
theorem dk_89 {c : ByteArray} {p : Nat} (h : ck0 c p 89 = true) : decode c p = .ok (.dup, 1) := by
  refine dk_of ?_
  unfold Decoder.instr
  exact dk_bind (ck0_u h (by decide)) rfl
theorem dk_92 {c : ByteArray} {p : Nat} (h : ck0 c p 92 = true) : decode c p = .ok (.dup2, 1) := by
  refine dk_of ?_
  unfold Decoder.instr
  exact dk_bind (ck0_u h (by decide)) rfl
theorem dk_96 {c : ByteArray} {p : Nat} (h : ck0 c p 96 = true) : decode c p = .ok (.iadd, 1) := by
  refine dk_of ?_
  unfold Decoder.instr
  exact dk_bind (ck0_u h (by decide)) rfl
theorem dk_97 {c : ByteArray} {p : Nat} (h : ck0 c p 97 = true) : decode c p = .ok (.ladd, 1) := by
  refine dk_of ?_
  unfold Decoder.instr
  exact dk_bind (ck0_u h (by decide)) rfl
theorem dk_100 {c : ByteArray} {p : Nat} (h : ck0 c p 100 = true) : decode c p = .ok (.isub, 1) := by
  refine dk_of ?_
  unfold Decoder.instr
  exact dk_bind (ck0_u h (by decide)) rfl
theorem dk_101 {c : ByteArray} {p : Nat} (h : ck0 c p 101 = true) : decode c p = .ok (.lsub, 1) := by
  refine dk_of ?_
  unfold Decoder.instr
  exact dk_bind (ck0_u h (by decide)) rfl
theorem dk_104 {c : ByteArray} {p : Nat} (h : ck0 c p 104 = true) : decode c p = .ok (.imul, 1) := by
  refine dk_of ?_
  unfold Decoder.instr
  exact dk_bind (ck0_u h (by decide)) rfl
theorem dk_105 {c : ByteArray} {p : Nat} (h : ck0 c p 105 = true) : decode c p = .ok (.lmul, 1) := by
  refine dk_of ?_
  unfold Decoder.instr
  exact dk_bind (ck0_u h (by decide)) rfl
theorem dk_108 {c : ByteArray} {p : Nat} (h : ck0 c p 108 = true) : decode c p = .ok (.idiv, 1) := by
  refine dk_of ?_
  unfold Decoder.instr
  exact dk_bind (ck0_u h (by decide)) rfl
theorem dk_109 {c : ByteArray} {p : Nat} (h : ck0 c p 109 = true) : decode c p = .ok (.ldiv, 1) := by
  refine dk_of ?_
  unfold Decoder.instr
  exact dk_bind (ck0_u h (by decide)) rfl
theorem dk_112 {c : ByteArray} {p : Nat} (h : ck0 c p 112 = true) : decode c p = .ok (.irem, 1) := by
  refine dk_of ?_
  unfold Decoder.instr
  exact dk_bind (ck0_u h (by decide)) rfl
theorem dk_113 {c : ByteArray} {p : Nat} (h : ck0 c p 113 = true) : decode c p = .ok (.lrem, 1) := by
  refine dk_of ?_
  unfold Decoder.instr
  exact dk_bind (ck0_u h (by decide)) rfl
theorem dk_116 {c : ByteArray} {p : Nat} (h : ck0 c p 116 = true) : decode c p = .ok (.ineg, 1) := by
  refine dk_of ?_
  unfold Decoder.instr
  exact dk_bind (ck0_u h (by decide)) rfl
theorem dk_117 {c : ByteArray} {p : Nat} (h : ck0 c p 117 = true) : decode c p = .ok (.lneg, 1) := by
  refine dk_of ?_
  unfold Decoder.instr
  exact dk_bind (ck0_u h (by decide)) rfl
theorem dk_122 {c : ByteArray} {p : Nat} (h : ck0 c p 122 = true) : decode c p = .ok (.ishr, 1) := by
  refine dk_of ?_
  unfold Decoder.instr
  exact dk_bind (ck0_u h (by decide)) rfl
theorem dk_126 {c : ByteArray} {p : Nat} (h : ck0 c p 126 = true) : decode c p = .ok (.iand, 1) := by
  refine dk_of ?_
  unfold Decoder.instr
  exact dk_bind (ck0_u h (by decide)) rfl
theorem dk_127 {c : ByteArray} {p : Nat} (h : ck0 c p 127 = true) : decode c p = .ok (.land, 1) := by
  refine dk_of ?_
  unfold Decoder.instr
  exact dk_bind (ck0_u h (by decide)) rfl
theorem dk_128 {c : ByteArray} {p : Nat} (h : ck0 c p 128 = true) : decode c p = .ok (.ior, 1) := by
  refine dk_of ?_
  unfold Decoder.instr
  exact dk_bind (ck0_u h (by decide)) rfl
theorem dk_129 {c : ByteArray} {p : Nat} (h : ck0 c p 129 = true) : decode c p = .ok (.lor, 1) := by
  refine dk_of ?_
  unfold Decoder.instr
  exact dk_bind (ck0_u h (by decide)) rfl
theorem dk_132 {c : ByteArray} {p a : Nat} {v : Int} (h : cki c p a v = true) : decode c p = .ok (.iinc a v, 3) := by
  obtain ⟨h1, h2⟩ := ck_and h
  obtain ⟨h2, h3⟩ := ck_and h2
  have h3 : Reader.signed 8 (ub c (p + 2)) = v := of_decide_eq_true h3
  have e := dk_map (f := Reader.signed 8) (ub_u1 (c := c) (p := p + 2) rfl (ck_lt h2))
  rw [h3] at e
  refine dk_of ?_
  unfold Decoder.instr
  exact dk_bind (ck1_u h1 (by decide)).1 (dk_bind (ck1_u h1 (by decide)).2 (dk_bind e rfl))
theorem dk_133 {c : ByteArray} {p : Nat} (h : ck0 c p 133 = true) : decode c p = .ok (.i2l, 1) := by
  refine dk_of ?_
  unfold Decoder.instr
  exact dk_bind (ck0_u h (by decide)) rfl
theorem dk_136 {c : ByteArray} {p : Nat} (h : ck0 c p 136 = true) : decode c p = .ok (.l2i, 1) := by
  refine dk_of ?_
  unfold Decoder.instr
  exact dk_bind (ck0_u h (by decide)) rfl
theorem dk_145 {c : ByteArray} {p : Nat} (h : ck0 c p 145 = true) : decode c p = .ok (.i2b, 1) := by
  refine dk_of ?_
  unfold Decoder.instr
  exact dk_bind (ck0_u h (by decide)) rfl
theorem dk_146 {c : ByteArray} {p : Nat} (h : ck0 c p 146 = true) : decode c p = .ok (.i2c, 1) := by
  refine dk_of ?_
  unfold Decoder.instr
  exact dk_bind (ck0_u h (by decide)) rfl
theorem dk_148 {c : ByteArray} {p : Nat} (h : ck0 c p 148 = true) : decode c p = .ok (.lcmp, 1) := by
  refine dk_of ?_
  unfold Decoder.instr
  exact dk_bind (ck0_u h (by decide)) rfl
theorem dk_153 {c : ByteArray} {p : Nat} {v : Int} (h : ck2s c p 153 v = true) : decode c p = .ok (.ifCond .eq v, 3) := by
  refine dk_of ?_
  unfold Decoder.instr
  exact dk_bind (ck2s_u h (by decide)).1 (dk_bind (ck2s_u h (by decide)).2 rfl)
theorem dk_154 {c : ByteArray} {p : Nat} {v : Int} (h : ck2s c p 154 v = true) : decode c p = .ok (.ifCond .ne v, 3) := by
  refine dk_of ?_
  unfold Decoder.instr
  exact dk_bind (ck2s_u h (by decide)).1 (dk_bind (ck2s_u h (by decide)).2 rfl)
theorem dk_155 {c : ByteArray} {p : Nat} {v : Int} (h : ck2s c p 155 v = true) : decode c p = .ok (.ifCond .lt v, 3) := by
  refine dk_of ?_
  unfold Decoder.instr
  exact dk_bind (ck2s_u h (by decide)).1 (dk_bind (ck2s_u h (by decide)).2 rfl)
theorem dk_156 {c : ByteArray} {p : Nat} {v : Int} (h : ck2s c p 156 v = true) : decode c p = .ok (.ifCond .ge v, 3) := by
  refine dk_of ?_
  unfold Decoder.instr
  exact dk_bind (ck2s_u h (by decide)).1 (dk_bind (ck2s_u h (by decide)).2 rfl)
theorem dk_157 {c : ByteArray} {p : Nat} {v : Int} (h : ck2s c p 157 v = true) : decode c p = .ok (.ifCond .gt v, 3) := by
  refine dk_of ?_
  unfold Decoder.instr
  exact dk_bind (ck2s_u h (by decide)).1 (dk_bind (ck2s_u h (by decide)).2 rfl)
theorem dk_158 {c : ByteArray} {p : Nat} {v : Int} (h : ck2s c p 158 v = true) : decode c p = .ok (.ifCond .le v, 3) := by
  refine dk_of ?_
  unfold Decoder.instr
  exact dk_bind (ck2s_u h (by decide)).1 (dk_bind (ck2s_u h (by decide)).2 rfl)
theorem dk_159 {c : ByteArray} {p : Nat} {v : Int} (h : ck2s c p 159 v = true) : decode c p = .ok (.if_icmp .eq v, 3) := by
  refine dk_of ?_
  unfold Decoder.instr
  exact dk_bind (ck2s_u h (by decide)).1 (dk_bind (ck2s_u h (by decide)).2 rfl)
theorem dk_160 {c : ByteArray} {p : Nat} {v : Int} (h : ck2s c p 160 v = true) : decode c p = .ok (.if_icmp .ne v, 3) := by
  refine dk_of ?_
  unfold Decoder.instr
  exact dk_bind (ck2s_u h (by decide)).1 (dk_bind (ck2s_u h (by decide)).2 rfl)
theorem dk_161 {c : ByteArray} {p : Nat} {v : Int} (h : ck2s c p 161 v = true) : decode c p = .ok (.if_icmp .lt v, 3) := by
  refine dk_of ?_
  unfold Decoder.instr
  exact dk_bind (ck2s_u h (by decide)).1 (dk_bind (ck2s_u h (by decide)).2 rfl)
theorem dk_162 {c : ByteArray} {p : Nat} {v : Int} (h : ck2s c p 162 v = true) : decode c p = .ok (.if_icmp .ge v, 3) := by
  refine dk_of ?_
  unfold Decoder.instr
  exact dk_bind (ck2s_u h (by decide)).1 (dk_bind (ck2s_u h (by decide)).2 rfl)
theorem dk_163 {c : ByteArray} {p : Nat} {v : Int} (h : ck2s c p 163 v = true) : decode c p = .ok (.if_icmp .gt v, 3) := by
  refine dk_of ?_
  unfold Decoder.instr
  exact dk_bind (ck2s_u h (by decide)).1 (dk_bind (ck2s_u h (by decide)).2 rfl)
theorem dk_164 {c : ByteArray} {p : Nat} {v : Int} (h : ck2s c p 164 v = true) : decode c p = .ok (.if_icmp .le v, 3) := by
  refine dk_of ?_
  unfold Decoder.instr
  exact dk_bind (ck2s_u h (by decide)).1 (dk_bind (ck2s_u h (by decide)).2 rfl)
theorem dk_167 {c : ByteArray} {p : Nat} {v : Int} (h : ck2s c p 167 v = true) : decode c p = .ok (.goto v, 3) := by
  refine dk_of ?_
  unfold Decoder.instr
  exact dk_bind (ck2s_u h (by decide)).1 (dk_bind (ck2s_u h (by decide)).2 rfl)
theorem dk_172 {c : ByteArray} {p : Nat} (h : ck0 c p 172 = true) : decode c p = .ok (.ireturn, 1) := by
  refine dk_of ?_
  unfold Decoder.instr
  exact dk_bind (ck0_u h (by decide)) rfl
theorem dk_173 {c : ByteArray} {p : Nat} (h : ck0 c p 173 = true) : decode c p = .ok (.lreturn, 1) := by
  refine dk_of ?_
  unfold Decoder.instr
  exact dk_bind (ck0_u h (by decide)) rfl
theorem dk_176 {c : ByteArray} {p : Nat} (h : ck0 c p 176 = true) : decode c p = .ok (.areturn, 1) := by
  refine dk_of ?_
  unfold Decoder.instr
  exact dk_bind (ck0_u h (by decide)) rfl
theorem dk_177 {c : ByteArray} {p : Nat} (h : ck0 c p 177 = true) : decode c p = .ok (.return_, 1) := by
  refine dk_of ?_
  unfold Decoder.instr
  exact dk_bind (ck0_u h (by decide)) rfl
theorem dk_178 {c : ByteArray} {p n : Nat} (h : ck2 c p 178 n = true) : decode c p = .ok (.getstatic n, 3) := by
  refine dk_of ?_
  unfold Decoder.instr
  exact dk_bind (ck2_u h (by decide)).1 (dk_bind (ck2_u h (by decide)).2 rfl)
theorem dk_180 {c : ByteArray} {p n : Nat} (h : ck2 c p 180 n = true) : decode c p = .ok (.getfield n, 3) := by
  refine dk_of ?_
  unfold Decoder.instr
  exact dk_bind (ck2_u h (by decide)).1 (dk_bind (ck2_u h (by decide)).2 rfl)
theorem dk_181 {c : ByteArray} {p n : Nat} (h : ck2 c p 181 n = true) : decode c p = .ok (.putfield n, 3) := by
  refine dk_of ?_
  unfold Decoder.instr
  exact dk_bind (ck2_u h (by decide)).1 (dk_bind (ck2_u h (by decide)).2 rfl)
theorem dk_182 {c : ByteArray} {p n : Nat} (h : ck2 c p 182 n = true) : decode c p = .ok (.invokevirtual n, 3) := by
  refine dk_of ?_
  unfold Decoder.instr
  exact dk_bind (ck2_u h (by decide)).1 (dk_bind (ck2_u h (by decide)).2 rfl)
theorem dk_183 {c : ByteArray} {p n : Nat} (h : ck2 c p 183 n = true) : decode c p = .ok (.invokespecial n, 3) := by
  refine dk_of ?_
  unfold Decoder.instr
  exact dk_bind (ck2_u h (by decide)).1 (dk_bind (ck2_u h (by decide)).2 rfl)
theorem dk_184 {c : ByteArray} {p n : Nat} (h : ck2 c p 184 n = true) : decode c p = .ok (.invokestatic n, 3) := by
  refine dk_of ?_
  unfold Decoder.instr
  exact dk_bind (ck2_u h (by decide)).1 (dk_bind (ck2_u h (by decide)).2 rfl)
theorem dk_187 {c : ByteArray} {p n : Nat} (h : ck2 c p 187 n = true) : decode c p = .ok (.new n, 3) := by
  refine dk_of ?_
  unfold Decoder.instr
  exact dk_bind (ck2_u h (by decide)).1 (dk_bind (ck2_u h (by decide)).2 rfl)
theorem dk_189 {c : ByteArray} {p n : Nat} (h : ck2 c p 189 n = true) : decode c p = .ok (.anewarray n, 3) := by
  refine dk_of ?_
  unfold Decoder.instr
  exact dk_bind (ck2_u h (by decide)).1 (dk_bind (ck2_u h (by decide)).2 rfl)
theorem dk_190 {c : ByteArray} {p : Nat} (h : ck0 c p 190 = true) : decode c p = .ok (.arraylength, 1) := by
  refine dk_of ?_
  unfold Decoder.instr
  exact dk_bind (ck0_u h (by decide)) rfl
theorem dk_198 {c : ByteArray} {p : Nat} {v : Int} (h : ck2s c p 198 v = true) : decode c p = .ok (.ifnull v, 3) := by
  refine dk_of ?_
  unfold Decoder.instr
  exact dk_bind (ck2s_u h (by decide)).1 (dk_bind (ck2s_u h (by decide)).2 rfl)
theorem dk_199 {c : ByteArray} {p : Nat} {v : Int} (h : ck2s c p 199 v = true) : decode c p = .ok (.ifnonnull v, 3) := by
  refine dk_of ?_
  unfold Decoder.instr
  exact dk_bind (ck2s_u h (by decide)).1 (dk_bind (ck2s_u h (by decide)).2 rfl)
