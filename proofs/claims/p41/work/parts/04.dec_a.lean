theorem fqu1 {c : ByteArray} {p : Nat} {b : UInt8} {r : List UInt8} (h : c.data.toList.drop p = b :: r) :
    (Reader.u1 : Decoder Nat) c p = .ok (b.toNat, p + 1) := by
  have hl : p < c.data.toList.length := by
    rcases Nat.lt_or_ge p c.data.toList.length with h1 | h1
    · exact h1
    · rw [List.drop_eq_nil_of_le h1] at h; cases h
  have hs : p < c.size := by simpa using hl
  have hg : c[p] = b := by
    have h2 := List.drop_eq_getElem_cons hl
    rw [h] at h2
    injection h2 with h3 h4
    rw [h3]; rfl
  show (dite (p < c.size) (fun h => (do set (p + 1); Pure.pure c[p].toNat : Decoder Nat)) (fun _ => throw (HasTruncated.truncated p))) c p = _
  rw [dif_pos hs, hg]
  rfl
theorem fqnx {c : ByteArray} {p : Nat} {b : UInt8} {r : List UInt8} (h : c.data.toList.drop p = b :: r) : c.data.toList.drop (p + 1) = r := by
  rw [← List.drop_drop, h]; rfl
def fqwA (l : List UInt8) (k : Nat) : Bool := match l with | b :: _ => Nat.beq b.toNat k | [] => false
def fqwB (l : List UInt8) (k a : Nat) : Bool := match l with | b :: x :: _ => Nat.beq b.toNat k && Nat.beq x.toNat a | _ => false
def fqwC (l : List UInt8) (k : Nat) (z : Int) : Bool := match l with | b :: x :: _ => Nat.beq b.toNat k && decide (Reader.signed 8 x.toNat = z) | _ => false
def fqwD (l : List UInt8) (k a : Nat) : Bool := match l with | b :: x :: y :: _ => Nat.beq b.toNat k && Nat.beq (x.toNat * 256 + y.toNat) a | _ => false
def fqwE (l : List UInt8) (k : Nat) (z : Int) : Bool := match l with | b :: x :: y :: _ => Nat.beq b.toNat k && decide (Reader.signed 16 (x.toNat * 256 + y.toNat) = z) | _ => false
def fqwF (l : List UInt8) (a : Nat) (z : Int) : Bool := match l with | b :: x :: y :: _ => Nat.beq b.toNat 132 && (Nat.beq x.toNat a && decide (Reader.signed 8 y.toNat = z)) | _ => false
theorem fqwA_el {l : List UInt8} {k : Nat} (h : fqwA l k = true) : ∃ b r, l = b :: r ∧ b.toNat = k := by
  unfold fqwA at h; split at h
  · exact ⟨_, _, rfl, Nat.eq_of_beq_eq_true h⟩
  · cases h
theorem fqwB_el {l : List UInt8} {k a : Nat} (h : fqwB l k a = true) : ∃ b x r, l = b :: x :: r ∧ b.toNat = k ∧ x.toNat = a := by
  unfold fqwB at h; split at h
  · rw [Bool.and_eq_true] at h; exact ⟨_, _, _, rfl, Nat.eq_of_beq_eq_true h.1, Nat.eq_of_beq_eq_true h.2⟩
  · cases h
theorem fqwC_el {l : List UInt8} {k : Nat} {a : Int} (h : fqwC l k a = true) : ∃ b x r, l = b :: x :: r ∧ b.toNat = k ∧ Reader.signed 8 x.toNat = a := by
  unfold fqwC at h; split at h
  · rw [Bool.and_eq_true] at h; exact ⟨_, _, _, rfl, Nat.eq_of_beq_eq_true h.1, of_decide_eq_true h.2⟩
  · cases h
theorem fqwD_el {l : List UInt8} {k a : Nat} (h : fqwD l k a = true) : ∃ b x y r, l = b :: x :: y :: r ∧ b.toNat = k ∧ x.toNat * 256 + y.toNat = a := by
  unfold fqwD at h; split at h
  · rw [Bool.and_eq_true] at h; exact ⟨_, _, _, _, rfl, Nat.eq_of_beq_eq_true h.1, Nat.eq_of_beq_eq_true h.2⟩
  · cases h
theorem fqwE_el {l : List UInt8} {k : Nat} {a : Int} (h : fqwE l k a = true) : ∃ b x y r, l = b :: x :: y :: r ∧ b.toNat = k ∧ Reader.signed 16 (x.toNat * 256 + y.toNat) = a := by
  unfold fqwE at h; split at h
  · rw [Bool.and_eq_true] at h; exact ⟨_, _, _, _, rfl, Nat.eq_of_beq_eq_true h.1, of_decide_eq_true h.2⟩
  · cases h
theorem fqwF_el {l : List UInt8} {a : Nat} {z : Int} (h : fqwF l a z = true) : ∃ b x y r, l = b :: x :: y :: r ∧ b.toNat = 132 ∧ x.toNat = a ∧ Reader.signed 8 y.toNat = z := by
  unfold fqwF at h; split at h
  · rw [Bool.and_eq_true, Bool.and_eq_true] at h; exact ⟨_, _, _, _, rfl, Nat.eq_of_beq_eq_true h.1, Nat.eq_of_beq_eq_true h.2.1, of_decide_eq_true h.2.2⟩
  · cases h
/-- decode by what 'instr' says -/
theorem fqde {c : ByteArray} {p n : Nat} {i : Instr} (h : (Decoder.instr p) c p = .ok (i, p + n)) : decode c p = .ok (i, n) := by
  unfold decode
  show Except.bind ((Decoder.instr p) c p) _ = _
  rw [h]
  show Except.ok (i, p + n - p) = _
  rw [Nat.add_sub_cancel_left]
theorem fqb1 {α : Type} {c : ByteArray} {p : Nat} {b : UInt8} {r : List UInt8} (h : c.data.toList.drop p = b :: r) (f : Nat → Decoder α) :
    ((Reader.u1 : Decoder Nat) >>= f) c p = f b.toNat c (p + 1) := by
  show Except.bind ((Reader.u1 : Decoder Nat) c p) _ = _
  rw [fqu1 h]; rfl
theorem fqu2 {c : ByteArray} {p : Nat} {x y : UInt8} {r : List UInt8} (h : c.data.toList.drop p = x :: y :: r) :
    (Reader.u2 : Decoder Nat) c p = .ok (x.toNat * 256 + y.toNat, p + 2) := by
  unfold Reader.u2
  rw [fqb1 h, fqb1 (fqnx h)]
  rfl
theorem fqb2 {α : Type} {c : ByteArray} {p : Nat} {x y : UInt8} {r : List UInt8} (h : c.data.toList.drop p = x :: y :: r) (f : Nat → Decoder α) :
    ((Reader.u2 : Decoder Nat) >>= f) c p = f (x.toNat * 256 + y.toNat) c (p + 2) := by
  show Except.bind ((Reader.u2 : Decoder Nat) c p) _ = _
  rw [fqu2 h]; rfl
theorem fqs1 {α : Type} {c : ByteArray} {p : Nat} {b : UInt8} {r : List UInt8} (h : c.data.toList.drop p = b :: r) (f : Int → Decoder α) :
    ((Reader.s1 : Decoder Int) >>= f) c p = f (Reader.signed 8 b.toNat) c (p + 1) := by
  have e : (Reader.s1 : Decoder Int) c p = .ok (Reader.signed 8 b.toNat, p + 1) := by
    show Except.bind ((Reader.u1 : Decoder Nat) c p) _ = _
    rw [fqu1 h]; rfl
  show Except.bind ((Reader.s1 : Decoder Int) c p) _ = _
  rw [e]; rfl
theorem fqs2 {α : Type} {c : ByteArray} {p : Nat} {x y : UInt8} {r : List UInt8} (h : c.data.toList.drop p = x :: y :: r) (f : Int → Decoder α) :
    ((Reader.s2 : Decoder Int) >>= f) c p = f (Reader.signed 16 (x.toNat * 256 + y.toNat)) c (p + 2) := by
  have e : (Reader.s2 : Decoder Int) c p = .ok (Reader.signed 16 (x.toNat * 256 + y.toNat), p + 2) := by
    show Except.bind ((Reader.u2 : Decoder Nat) c p) _ = _
    rw [fqu2 h]; rfl
  show Except.bind ((Reader.s2 : Decoder Int) c p) _ = _
  rw [e]; rfl
set_option maxRecDepth 16384 in
theorem fqoA_2 {c : ByteArray} {p : Nat} {l : List UInt8} (hl : c.data.toList.drop p = l) (h : fqwA l 2 = true) : decode c p = .ok (.iconst (-1), 1) := by
  obtain ⟨b, r, rfl, hb⟩ := fqwA_el h
  refine fqde ?_
  unfold Decoder.instr
  rw [fqb1 hl, hb]
  rfl
set_option maxRecDepth 16384 in
theorem fqoA_3 {c : ByteArray} {p : Nat} {l : List UInt8} (hl : c.data.toList.drop p = l) (h : fqwA l 3 = true) : decode c p = .ok (.iconst 0, 1) := by
  obtain ⟨b, r, rfl, hb⟩ := fqwA_el h
  refine fqde ?_
  unfold Decoder.instr
  rw [fqb1 hl, hb]
  rfl
set_option maxRecDepth 16384 in
theorem fqoA_4 {c : ByteArray} {p : Nat} {l : List UInt8} (hl : c.data.toList.drop p = l) (h : fqwA l 4 = true) : decode c p = .ok (.iconst 1, 1) := by
  obtain ⟨b, r, rfl, hb⟩ := fqwA_el h
  refine fqde ?_
  unfold Decoder.instr
  rw [fqb1 hl, hb]
  rfl
set_option maxRecDepth 16384 in
theorem fqoA_5 {c : ByteArray} {p : Nat} {l : List UInt8} (hl : c.data.toList.drop p = l) (h : fqwA l 5 = true) : decode c p = .ok (.iconst 2, 1) := by
  obtain ⟨b, r, rfl, hb⟩ := fqwA_el h
  refine fqde ?_
  unfold Decoder.instr
  rw [fqb1 hl, hb]
  rfl
set_option maxRecDepth 16384 in
theorem fqoA_6 {c : ByteArray} {p : Nat} {l : List UInt8} (hl : c.data.toList.drop p = l) (h : fqwA l 6 = true) : decode c p = .ok (.iconst 3, 1) := by
  obtain ⟨b, r, rfl, hb⟩ := fqwA_el h
  refine fqde ?_
  unfold Decoder.instr
  rw [fqb1 hl, hb]
  rfl
set_option maxRecDepth 16384 in
theorem fqoA_7 {c : ByteArray} {p : Nat} {l : List UInt8} (hl : c.data.toList.drop p = l) (h : fqwA l 7 = true) : decode c p = .ok (.iconst 4, 1) := by
  obtain ⟨b, r, rfl, hb⟩ := fqwA_el h
  refine fqde ?_
  unfold Decoder.instr
  rw [fqb1 hl, hb]
  rfl
set_option maxRecDepth 16384 in
theorem fqoA_8 {c : ByteArray} {p : Nat} {l : List UInt8} (hl : c.data.toList.drop p = l) (h : fqwA l 8 = true) : decode c p = .ok (.iconst 5, 1) := by
  obtain ⟨b, r, rfl, hb⟩ := fqwA_el h
  refine fqde ?_
  unfold Decoder.instr
  rw [fqb1 hl, hb]
  rfl
set_option maxRecDepth 16384 in
theorem fqoA_9 {c : ByteArray} {p : Nat} {l : List UInt8} (hl : c.data.toList.drop p = l) (h : fqwA l 9 = true) : decode c p = .ok (.lconst 0, 1) := by
  obtain ⟨b, r, rfl, hb⟩ := fqwA_el h
  refine fqde ?_
  unfold Decoder.instr
  rw [fqb1 hl, hb]
  rfl
set_option maxRecDepth 16384 in
theorem fqoC_16 {c : ByteArray} {p : Nat} {l : List UInt8} {a : Int} (hl : c.data.toList.drop p = l) (h : fqwC l 16 a = true) : decode c p = .ok (.bipush a, 2) := by
  obtain ⟨b, x, r, rfl, hb, ha⟩ := fqwC_el h
  refine fqde ?_
  unfold Decoder.instr
  rw [fqb1 hl, hb]
  show ((Reader.s1 : Decoder Int) >>= fun a => (Pure.pure (Instr.bipush a) : Decoder Instr)) c (p + 1) = _
  rw [fqs1 (fqnx hl), ha]
  rfl
set_option maxRecDepth 16384 in
theorem fqoE_17 {c : ByteArray} {p : Nat} {l : List UInt8} {a : Int} (hl : c.data.toList.drop p = l) (h : fqwE l 17 a = true) : decode c p = .ok (.sipush a, 3) := by
  obtain ⟨b, x, y, r, rfl, hb, ha⟩ := fqwE_el h
  refine fqde ?_
  unfold Decoder.instr
  rw [fqb1 hl, hb]
  show ((Reader.s2 : Decoder Int) >>= fun a => (Pure.pure (Instr.sipush a) : Decoder Instr)) c (p + 1) = _
  rw [fqs2 (fqnx hl), ha]
  rfl
set_option maxRecDepth 16384 in
theorem fqoB_18 {c : ByteArray} {p : Nat} {l : List UInt8} {a : Nat} (hl : c.data.toList.drop p = l) (h : fqwB l 18 a = true) : decode c p = .ok (.ldc a, 2) := by
  obtain ⟨b, x, r, rfl, hb, ha⟩ := fqwB_el h
  refine fqde ?_
  unfold Decoder.instr
  rw [fqb1 hl, hb]
  show ((Reader.u1 : Decoder Nat) >>= fun a => (Pure.pure (Instr.ldc a) : Decoder Instr)) c (p + 1) = _
  rw [fqb1 (fqnx hl), ha]
  rfl
set_option maxRecDepth 16384 in
theorem fqoD_19 {c : ByteArray} {p : Nat} {l : List UInt8} {a : Nat} (hl : c.data.toList.drop p = l) (h : fqwD l 19 a = true) : decode c p = .ok (.ldc_w a, 3) := by
  obtain ⟨b, x, y, r, rfl, hb, ha⟩ := fqwD_el h
  refine fqde ?_
  unfold Decoder.instr
  rw [fqb1 hl, hb]
  show ((Reader.u2 : Decoder Nat) >>= fun a => (Pure.pure (Instr.ldc_w a) : Decoder Instr)) c (p + 1) = _
  rw [fqb2 (fqnx hl), ha]
  rfl
set_option maxRecDepth 16384 in
theorem fqoB_21 {c : ByteArray} {p : Nat} {l : List UInt8} {a : Nat} (hl : c.data.toList.drop p = l) (h : fqwB l 21 a = true) : decode c p = .ok (.iload a, 2) := by
  obtain ⟨b, x, r, rfl, hb, ha⟩ := fqwB_el h
  refine fqde ?_
  unfold Decoder.instr
  rw [fqb1 hl, hb]
  show ((Reader.u1 : Decoder Nat) >>= fun a => (Pure.pure (Instr.iload a) : Decoder Instr)) c (p + 1) = _
  rw [fqb1 (fqnx hl), ha]
  rfl
set_option maxRecDepth 16384 in
theorem fqoA_26 {c : ByteArray} {p : Nat} {l : List UInt8} (hl : c.data.toList.drop p = l) (h : fqwA l 26 = true) : decode c p = .ok (.iload_n 0, 1) := by
  obtain ⟨b, r, rfl, hb⟩ := fqwA_el h
  refine fqde ?_
  unfold Decoder.instr
  rw [fqb1 hl, hb]
  rfl
set_option maxRecDepth 16384 in
theorem fqoA_27 {c : ByteArray} {p : Nat} {l : List UInt8} (hl : c.data.toList.drop p = l) (h : fqwA l 27 = true) : decode c p = .ok (.iload_n 1, 1) := by
  obtain ⟨b, r, rfl, hb⟩ := fqwA_el h
  refine fqde ?_
  unfold Decoder.instr
  rw [fqb1 hl, hb]
  rfl
set_option maxRecDepth 16384 in
theorem fqoA_28 {c : ByteArray} {p : Nat} {l : List UInt8} (hl : c.data.toList.drop p = l) (h : fqwA l 28 = true) : decode c p = .ok (.iload_n 2, 1) := by
  obtain ⟨b, r, rfl, hb⟩ := fqwA_el h
  refine fqde ?_
  unfold Decoder.instr
  rw [fqb1 hl, hb]
  rfl
set_option maxRecDepth 16384 in
theorem fqoA_29 {c : ByteArray} {p : Nat} {l : List UInt8} (hl : c.data.toList.drop p = l) (h : fqwA l 29 = true) : decode c p = .ok (.iload_n 3, 1) := by
  obtain ⟨b, r, rfl, hb⟩ := fqwA_el h
  refine fqde ?_
  unfold Decoder.instr
  rw [fqb1 hl, hb]
  rfl
set_option maxRecDepth 16384 in
theorem fqoA_31 {c : ByteArray} {p : Nat} {l : List UInt8} (hl : c.data.toList.drop p = l) (h : fqwA l 31 = true) : decode c p = .ok (.lload_n 1, 1) := by
  obtain ⟨b, r, rfl, hb⟩ := fqwA_el h
  refine fqde ?_
  unfold Decoder.instr
  rw [fqb1 hl, hb]
  rfl
set_option maxRecDepth 16384 in
theorem fqoA_32 {c : ByteArray} {p : Nat} {l : List UInt8} (hl : c.data.toList.drop p = l) (h : fqwA l 32 = true) : decode c p = .ok (.lload_n 2, 1) := by
  obtain ⟨b, r, rfl, hb⟩ := fqwA_el h
  refine fqde ?_
  unfold Decoder.instr
  rw [fqb1 hl, hb]
  rfl
set_option maxRecDepth 16384 in
theorem fqoA_42 {c : ByteArray} {p : Nat} {l : List UInt8} (hl : c.data.toList.drop p = l) (h : fqwA l 42 = true) : decode c p = .ok (.aload_n 0, 1) := by
  obtain ⟨b, r, rfl, hb⟩ := fqwA_el h
  refine fqde ?_
  unfold Decoder.instr
  rw [fqb1 hl, hb]
  rfl
set_option maxRecDepth 16384 in
theorem fqoA_43 {c : ByteArray} {p : Nat} {l : List UInt8} (hl : c.data.toList.drop p = l) (h : fqwA l 43 = true) : decode c p = .ok (.aload_n 1, 1) := by
  obtain ⟨b, r, rfl, hb⟩ := fqwA_el h
  refine fqde ?_
  unfold Decoder.instr
  rw [fqb1 hl, hb]
  rfl
set_option maxRecDepth 16384 in
theorem fqoA_44 {c : ByteArray} {p : Nat} {l : List UInt8} (hl : c.data.toList.drop p = l) (h : fqwA l 44 = true) : decode c p = .ok (.aload_n 2, 1) := by
  obtain ⟨b, r, rfl, hb⟩ := fqwA_el h
  refine fqde ?_
  unfold Decoder.instr
  rw [fqb1 hl, hb]
  rfl
set_option maxRecDepth 16384 in
theorem fqoA_45 {c : ByteArray} {p : Nat} {l : List UInt8} (hl : c.data.toList.drop p = l) (h : fqwA l 45 = true) : decode c p = .ok (.aload_n 3, 1) := by
  obtain ⟨b, r, rfl, hb⟩ := fqwA_el h
  refine fqde ?_
  unfold Decoder.instr
  rw [fqb1 hl, hb]
  rfl
set_option maxRecDepth 16384 in
theorem fqoA_46 {c : ByteArray} {p : Nat} {l : List UInt8} (hl : c.data.toList.drop p = l) (h : fqwA l 46 = true) : decode c p = .ok (.iaload, 1) := by
  obtain ⟨b, r, rfl, hb⟩ := fqwA_el h
  refine fqde ?_
  unfold Decoder.instr
  rw [fqb1 hl, hb]
  rfl
set_option maxRecDepth 16384 in
theorem fqoA_47 {c : ByteArray} {p : Nat} {l : List UInt8} (hl : c.data.toList.drop p = l) (h : fqwA l 47 = true) : decode c p = .ok (.laload, 1) := by
  obtain ⟨b, r, rfl, hb⟩ := fqwA_el h
  refine fqde ?_
  unfold Decoder.instr
  rw [fqb1 hl, hb]
  rfl
set_option maxRecDepth 16384 in
theorem fqoA_51 {c : ByteArray} {p : Nat} {l : List UInt8} (hl : c.data.toList.drop p = l) (h : fqwA l 51 = true) : decode c p = .ok (.baload, 1) := by
  obtain ⟨b, r, rfl, hb⟩ := fqwA_el h
  refine fqde ?_
  unfold Decoder.instr
  rw [fqb1 hl, hb]
  rfl
set_option maxRecDepth 16384 in
theorem fqoB_54 {c : ByteArray} {p : Nat} {l : List UInt8} {a : Nat} (hl : c.data.toList.drop p = l) (h : fqwB l 54 a = true) : decode c p = .ok (.istore a, 2) := by
  obtain ⟨b, x, r, rfl, hb, ha⟩ := fqwB_el h
  refine fqde ?_
  unfold Decoder.instr
  rw [fqb1 hl, hb]
  show ((Reader.u1 : Decoder Nat) >>= fun a => (Pure.pure (Instr.istore a) : Decoder Instr)) c (p + 1) = _
  rw [fqb1 (fqnx hl), ha]
  rfl
set_option maxRecDepth 16384 in
theorem fqoA_60 {c : ByteArray} {p : Nat} {l : List UInt8} (hl : c.data.toList.drop p = l) (h : fqwA l 60 = true) : decode c p = .ok (.istore_n 1, 1) := by
  obtain ⟨b, r, rfl, hb⟩ := fqwA_el h
  refine fqde ?_
  unfold Decoder.instr
  rw [fqb1 hl, hb]
  rfl
set_option maxRecDepth 16384 in
theorem fqoA_61 {c : ByteArray} {p : Nat} {l : List UInt8} (hl : c.data.toList.drop p = l) (h : fqwA l 61 = true) : decode c p = .ok (.istore_n 2, 1) := by
  obtain ⟨b, r, rfl, hb⟩ := fqwA_el h
  refine fqde ?_
  unfold Decoder.instr
  rw [fqb1 hl, hb]
  rfl
set_option maxRecDepth 16384 in
theorem fqoA_62 {c : ByteArray} {p : Nat} {l : List UInt8} (hl : c.data.toList.drop p = l) (h : fqwA l 62 = true) : decode c p = .ok (.istore_n 3, 1) := by
  obtain ⟨b, r, rfl, hb⟩ := fqwA_el h
  refine fqde ?_
  unfold Decoder.instr
  rw [fqb1 hl, hb]
  rfl
set_option maxRecDepth 16384 in
theorem fqoA_64 {c : ByteArray} {p : Nat} {l : List UInt8} (hl : c.data.toList.drop p = l) (h : fqwA l 64 = true) : decode c p = .ok (.lstore_n 1, 1) := by
  obtain ⟨b, r, rfl, hb⟩ := fqwA_el h
  refine fqde ?_
  unfold Decoder.instr
  rw [fqb1 hl, hb]
  rfl
set_option maxRecDepth 16384 in
theorem fqoA_65 {c : ByteArray} {p : Nat} {l : List UInt8} (hl : c.data.toList.drop p = l) (h : fqwA l 65 = true) : decode c p = .ok (.lstore_n 2, 1) := by
  obtain ⟨b, r, rfl, hb⟩ := fqwA_el h
  refine fqde ?_
  unfold Decoder.instr
  rw [fqb1 hl, hb]
  rfl
set_option maxRecDepth 16384 in
theorem fqoA_76 {c : ByteArray} {p : Nat} {l : List UInt8} (hl : c.data.toList.drop p = l) (h : fqwA l 76 = true) : decode c p = .ok (.astore_n 1, 1) := by
  obtain ⟨b, r, rfl, hb⟩ := fqwA_el h
  refine fqde ?_
  unfold Decoder.instr
  rw [fqb1 hl, hb]
  rfl
set_option maxRecDepth 16384 in
theorem fqoA_77 {c : ByteArray} {p : Nat} {l : List UInt8} (hl : c.data.toList.drop p = l) (h : fqwA l 77 = true) : decode c p = .ok (.astore_n 2, 1) := by
  obtain ⟨b, r, rfl, hb⟩ := fqwA_el h
  refine fqde ?_
  unfold Decoder.instr
  rw [fqb1 hl, hb]
  rfl
set_option maxRecDepth 16384 in
theorem fqoA_78 {c : ByteArray} {p : Nat} {l : List UInt8} (hl : c.data.toList.drop p = l) (h : fqwA l 78 = true) : decode c p = .ok (.astore_n 3, 1) := by
  obtain ⟨b, r, rfl, hb⟩ := fqwA_el h
  refine fqde ?_
  unfold Decoder.instr
  rw [fqb1 hl, hb]
  rfl
set_option maxRecDepth 16384 in
theorem fqoA_79 {c : ByteArray} {p : Nat} {l : List UInt8} (hl : c.data.toList.drop p = l) (h : fqwA l 79 = true) : decode c p = .ok (.iastore, 1) := by
  obtain ⟨b, r, rfl, hb⟩ := fqwA_el h
  refine fqde ?_
  unfold Decoder.instr
  rw [fqb1 hl, hb]
  rfl
set_option maxRecDepth 16384 in
theorem fqoA_80 {c : ByteArray} {p : Nat} {l : List UInt8} (hl : c.data.toList.drop p = l) (h : fqwA l 80 = true) : decode c p = .ok (.lastore, 1) := by
  obtain ⟨b, r, rfl, hb⟩ := fqwA_el h
  refine fqde ?_
  unfold Decoder.instr
  rw [fqb1 hl, hb]
  rfl
set_option maxRecDepth 16384 in
theorem fqoA_84 {c : ByteArray} {p : Nat} {l : List UInt8} (hl : c.data.toList.drop p = l) (h : fqwA l 84 = true) : decode c p = .ok (.bastore, 1) := by
  obtain ⟨b, r, rfl, hb⟩ := fqwA_el h
  refine fqde ?_
  unfold Decoder.instr
  rw [fqb1 hl, hb]
  rfl
set_option maxRecDepth 16384 in
theorem fqoA_87 {c : ByteArray} {p : Nat} {l : List UInt8} (hl : c.data.toList.drop p = l) (h : fqwA l 87 = true) : decode c p = .ok (.pop, 1) := by
  obtain ⟨b, r, rfl, hb⟩ := fqwA_el h
  refine fqde ?_
  unfold Decoder.instr
  rw [fqb1 hl, hb]
  rfl
set_option maxRecDepth 16384 in
theorem fqoA_89 {c : ByteArray} {p : Nat} {l : List UInt8} (hl : c.data.toList.drop p = l) (h : fqwA l 89 = true) : decode c p = .ok (.dup, 1) := by
  obtain ⟨b, r, rfl, hb⟩ := fqwA_el h
  refine fqde ?_
  unfold Decoder.instr
  rw [fqb1 hl, hb]
  rfl
set_option maxRecDepth 16384 in
theorem fqoA_92 {c : ByteArray} {p : Nat} {l : List UInt8} (hl : c.data.toList.drop p = l) (h : fqwA l 92 = true) : decode c p = .ok (.dup2, 1) := by
  obtain ⟨b, r, rfl, hb⟩ := fqwA_el h
  refine fqde ?_
  unfold Decoder.instr
  rw [fqb1 hl, hb]
  rfl
set_option maxRecDepth 16384 in
theorem fqoA_96 {c : ByteArray} {p : Nat} {l : List UInt8} (hl : c.data.toList.drop p = l) (h : fqwA l 96 = true) : decode c p = .ok (.iadd, 1) := by
  obtain ⟨b, r, rfl, hb⟩ := fqwA_el h
  refine fqde ?_
  unfold Decoder.instr
  rw [fqb1 hl, hb]
  rfl
set_option maxRecDepth 16384 in
theorem fqoA_100 {c : ByteArray} {p : Nat} {l : List UInt8} (hl : c.data.toList.drop p = l) (h : fqwA l 100 = true) : decode c p = .ok (.isub, 1) := by
  obtain ⟨b, r, rfl, hb⟩ := fqwA_el h
  refine fqde ?_
  unfold Decoder.instr
  rw [fqb1 hl, hb]
  rfl
set_option maxRecDepth 16384 in
theorem fqoA_104 {c : ByteArray} {p : Nat} {l : List UInt8} (hl : c.data.toList.drop p = l) (h : fqwA l 104 = true) : decode c p = .ok (.imul, 1) := by
  obtain ⟨b, r, rfl, hb⟩ := fqwA_el h
  refine fqde ?_
  unfold Decoder.instr
  rw [fqb1 hl, hb]
  rfl
set_option maxRecDepth 16384 in
theorem fqoA_108 {c : ByteArray} {p : Nat} {l : List UInt8} (hl : c.data.toList.drop p = l) (h : fqwA l 108 = true) : decode c p = .ok (.idiv, 1) := by
  obtain ⟨b, r, rfl, hb⟩ := fqwA_el h
  refine fqde ?_
  unfold Decoder.instr
  rw [fqb1 hl, hb]
  rfl
set_option maxRecDepth 16384 in
theorem fqoA_112 {c : ByteArray} {p : Nat} {l : List UInt8} (hl : c.data.toList.drop p = l) (h : fqwA l 112 = true) : decode c p = .ok (.irem, 1) := by
  obtain ⟨b, r, rfl, hb⟩ := fqwA_el h
  refine fqde ?_
  unfold Decoder.instr
  rw [fqb1 hl, hb]
  rfl
set_option maxRecDepth 16384 in
theorem fqoA_116 {c : ByteArray} {p : Nat} {l : List UInt8} (hl : c.data.toList.drop p = l) (h : fqwA l 116 = true) : decode c p = .ok (.ineg, 1) := by
  obtain ⟨b, r, rfl, hb⟩ := fqwA_el h
  refine fqde ?_
  unfold Decoder.instr
  rw [fqb1 hl, hb]
  rfl
set_option maxRecDepth 16384 in
theorem fqoA_120 {c : ByteArray} {p : Nat} {l : List UInt8} (hl : c.data.toList.drop p = l) (h : fqwA l 120 = true) : decode c p = .ok (.ishl, 1) := by
  obtain ⟨b, r, rfl, hb⟩ := fqwA_el h
  refine fqde ?_
  unfold Decoder.instr
  rw [fqb1 hl, hb]
  rfl
set_option maxRecDepth 16384 in
theorem fqoA_121 {c : ByteArray} {p : Nat} {l : List UInt8} (hl : c.data.toList.drop p = l) (h : fqwA l 121 = true) : decode c p = .ok (.lshl, 1) := by
  obtain ⟨b, r, rfl, hb⟩ := fqwA_el h
  refine fqde ?_
  unfold Decoder.instr
  rw [fqb1 hl, hb]
  rfl
set_option maxRecDepth 16384 in
theorem fqoA_122 {c : ByteArray} {p : Nat} {l : List UInt8} (hl : c.data.toList.drop p = l) (h : fqwA l 122 = true) : decode c p = .ok (.ishr, 1) := by
  obtain ⟨b, r, rfl, hb⟩ := fqwA_el h
  refine fqde ?_
  unfold Decoder.instr
  rw [fqb1 hl, hb]
  rfl
set_option maxRecDepth 16384 in
theorem fqoA_126 {c : ByteArray} {p : Nat} {l : List UInt8} (hl : c.data.toList.drop p = l) (h : fqwA l 126 = true) : decode c p = .ok (.iand, 1) := by
  obtain ⟨b, r, rfl, hb⟩ := fqwA_el h
  refine fqde ?_
  unfold Decoder.instr
  rw [fqb1 hl, hb]
  rfl
set_option maxRecDepth 16384 in
theorem fqoA_128 {c : ByteArray} {p : Nat} {l : List UInt8} (hl : c.data.toList.drop p = l) (h : fqwA l 128 = true) : decode c p = .ok (.ior, 1) := by
  obtain ⟨b, r, rfl, hb⟩ := fqwA_el h
  refine fqde ?_
  unfold Decoder.instr
  rw [fqb1 hl, hb]
  rfl
set_option maxRecDepth 16384 in
theorem fqoA_129 {c : ByteArray} {p : Nat} {l : List UInt8} (hl : c.data.toList.drop p = l) (h : fqwA l 129 = true) : decode c p = .ok (.lor, 1) := by
  obtain ⟨b, r, rfl, hb⟩ := fqwA_el h
  refine fqde ?_
  unfold Decoder.instr
  rw [fqb1 hl, hb]
  rfl
set_option maxRecDepth 16384 in
theorem fqoA_130 {c : ByteArray} {p : Nat} {l : List UInt8} (hl : c.data.toList.drop p = l) (h : fqwA l 130 = true) : decode c p = .ok (.ixor, 1) := by
  obtain ⟨b, r, rfl, hb⟩ := fqwA_el h
  refine fqde ?_
  unfold Decoder.instr
  rw [fqb1 hl, hb]
  rfl
set_option maxRecDepth 16384 in
theorem fqoF_132 {c : ByteArray} {p : Nat} {l : List UInt8} {a : Nat} {z : Int} (hl : c.data.toList.drop p = l) (h : fqwF l a z = true) : decode c p = .ok (.iinc a z, 3) := by
  obtain ⟨b, x, y, r, rfl, hb, ha, hz⟩ := fqwF_el h
  refine fqde ?_
  unfold Decoder.instr
  rw [fqb1 hl, hb]
  show ((Reader.u1 : Decoder Nat) >>= fun a => ((Reader.s1 : Decoder Int) >>= fun z => (Pure.pure (Instr.iinc a z) : Decoder Instr))) c (p + 1) = _
  rw [fqb1 (fqnx hl), ha, fqs1 (fqnx (fqnx hl)), hz]
  rfl
set_option maxRecDepth 16384 in
theorem fqoA_133 {c : ByteArray} {p : Nat} {l : List UInt8} (hl : c.data.toList.drop p = l) (h : fqwA l 133 = true) : decode c p = .ok (.i2l, 1) := by
  obtain ⟨b, r, rfl, hb⟩ := fqwA_el h
  refine fqde ?_
  unfold Decoder.instr
  rw [fqb1 hl, hb]
  rfl
set_option maxRecDepth 16384 in
theorem fqoA_145 {c : ByteArray} {p : Nat} {l : List UInt8} (hl : c.data.toList.drop p = l) (h : fqwA l 145 = true) : decode c p = .ok (.i2b, 1) := by
  obtain ⟨b, r, rfl, hb⟩ := fqwA_el h
  refine fqde ?_
  unfold Decoder.instr
  rw [fqb1 hl, hb]
  rfl
set_option maxRecDepth 16384 in
theorem fqoA_146 {c : ByteArray} {p : Nat} {l : List UInt8} (hl : c.data.toList.drop p = l) (h : fqwA l 146 = true) : decode c p = .ok (.i2c, 1) := by
  obtain ⟨b, r, rfl, hb⟩ := fqwA_el h
  refine fqde ?_
  unfold Decoder.instr
  rw [fqb1 hl, hb]
  rfl
set_option maxRecDepth 16384 in
theorem fqoA_148 {c : ByteArray} {p : Nat} {l : List UInt8} (hl : c.data.toList.drop p = l) (h : fqwA l 148 = true) : decode c p = .ok (.lcmp, 1) := by
  obtain ⟨b, r, rfl, hb⟩ := fqwA_el h
  refine fqde ?_
  unfold Decoder.instr
  rw [fqb1 hl, hb]
  rfl
set_option maxRecDepth 16384 in
theorem fqoE_153 {c : ByteArray} {p : Nat} {l : List UInt8} {a : Int} (hl : c.data.toList.drop p = l) (h : fqwE l 153 a = true) : decode c p = .ok (.ifCond .eq a, 3) := by
  obtain ⟨b, x, y, r, rfl, hb, ha⟩ := fqwE_el h
  refine fqde ?_
  unfold Decoder.instr
  rw [fqb1 hl, hb]
  show ((Reader.s2 : Decoder Int) >>= fun a => (Pure.pure (Instr.ifCond .eq a) : Decoder Instr)) c (p + 1) = _
  rw [fqs2 (fqnx hl), ha]
  rfl
set_option maxRecDepth 16384 in
theorem fqoE_154 {c : ByteArray} {p : Nat} {l : List UInt8} {a : Int} (hl : c.data.toList.drop p = l) (h : fqwE l 154 a = true) : decode c p = .ok (.ifCond .ne a, 3) := by
  obtain ⟨b, x, y, r, rfl, hb, ha⟩ := fqwE_el h
  refine fqde ?_
  unfold Decoder.instr
  rw [fqb1 hl, hb]
  show ((Reader.s2 : Decoder Int) >>= fun a => (Pure.pure (Instr.ifCond .ne a) : Decoder Instr)) c (p + 1) = _
  rw [fqs2 (fqnx hl), ha]
  rfl
set_option maxRecDepth 16384 in
theorem fqoE_155 {c : ByteArray} {p : Nat} {l : List UInt8} {a : Int} (hl : c.data.toList.drop p = l) (h : fqwE l 155 a = true) : decode c p = .ok (.ifCond .lt a, 3) := by
  obtain ⟨b, x, y, r, rfl, hb, ha⟩ := fqwE_el h
  refine fqde ?_
  unfold Decoder.instr
  rw [fqb1 hl, hb]
  show ((Reader.s2 : Decoder Int) >>= fun a => (Pure.pure (Instr.ifCond .lt a) : Decoder Instr)) c (p + 1) = _
  rw [fqs2 (fqnx hl), ha]
  rfl
set_option maxRecDepth 16384 in
theorem fqoE_156 {c : ByteArray} {p : Nat} {l : List UInt8} {a : Int} (hl : c.data.toList.drop p = l) (h : fqwE l 156 a = true) : decode c p = .ok (.ifCond .ge a, 3) := by
  obtain ⟨b, x, y, r, rfl, hb, ha⟩ := fqwE_el h
  refine fqde ?_
  unfold Decoder.instr
  rw [fqb1 hl, hb]
  show ((Reader.s2 : Decoder Int) >>= fun a => (Pure.pure (Instr.ifCond .ge a) : Decoder Instr)) c (p + 1) = _
  rw [fqs2 (fqnx hl), ha]
  rfl
set_option maxRecDepth 16384 in
theorem fqoE_157 {c : ByteArray} {p : Nat} {l : List UInt8} {a : Int} (hl : c.data.toList.drop p = l) (h : fqwE l 157 a = true) : decode c p = .ok (.ifCond .gt a, 3) := by
  obtain ⟨b, x, y, r, rfl, hb, ha⟩ := fqwE_el h
  refine fqde ?_
  unfold Decoder.instr
  rw [fqb1 hl, hb]
  show ((Reader.s2 : Decoder Int) >>= fun a => (Pure.pure (Instr.ifCond .gt a) : Decoder Instr)) c (p + 1) = _
  rw [fqs2 (fqnx hl), ha]
  rfl
set_option maxRecDepth 16384 in
theorem fqoE_158 {c : ByteArray} {p : Nat} {l : List UInt8} {a : Int} (hl : c.data.toList.drop p = l) (h : fqwE l 158 a = true) : decode c p = .ok (.ifCond .le a, 3) := by
  obtain ⟨b, x, y, r, rfl, hb, ha⟩ := fqwE_el h
  refine fqde ?_
  unfold Decoder.instr
  rw [fqb1 hl, hb]
  show ((Reader.s2 : Decoder Int) >>= fun a => (Pure.pure (Instr.ifCond .le a) : Decoder Instr)) c (p + 1) = _
  rw [fqs2 (fqnx hl), ha]
  rfl
set_option maxRecDepth 16384 in
theorem fqoE_159 {c : ByteArray} {p : Nat} {l : List UInt8} {a : Int} (hl : c.data.toList.drop p = l) (h : fqwE l 159 a = true) : decode c p = .ok (.if_icmp .eq a, 3) := by
  obtain ⟨b, x, y, r, rfl, hb, ha⟩ := fqwE_el h
  refine fqde ?_
  unfold Decoder.instr
  rw [fqb1 hl, hb]
  show ((Reader.s2 : Decoder Int) >>= fun a => (Pure.pure (Instr.if_icmp .eq a) : Decoder Instr)) c (p + 1) = _
  rw [fqs2 (fqnx hl), ha]
  rfl
set_option maxRecDepth 16384 in
theorem fqoE_160 {c : ByteArray} {p : Nat} {l : List UInt8} {a : Int} (hl : c.data.toList.drop p = l) (h : fqwE l 160 a = true) : decode c p = .ok (.if_icmp .ne a, 3) := by
  obtain ⟨b, x, y, r, rfl, hb, ha⟩ := fqwE_el h
  refine fqde ?_
  unfold Decoder.instr
  rw [fqb1 hl, hb]
  show ((Reader.s2 : Decoder Int) >>= fun a => (Pure.pure (Instr.if_icmp .ne a) : Decoder Instr)) c (p + 1) = _
  rw [fqs2 (fqnx hl), ha]
  rfl
set_option maxRecDepth 16384 in
theorem fqoE_161 {c : ByteArray} {p : Nat} {l : List UInt8} {a : Int} (hl : c.data.toList.drop p = l) (h : fqwE l 161 a = true) : decode c p = .ok (.if_icmp .lt a, 3) := by
  obtain ⟨b, x, y, r, rfl, hb, ha⟩ := fqwE_el h
  refine fqde ?_
  unfold Decoder.instr
  rw [fqb1 hl, hb]
  show ((Reader.s2 : Decoder Int) >>= fun a => (Pure.pure (Instr.if_icmp .lt a) : Decoder Instr)) c (p + 1) = _
  rw [fqs2 (fqnx hl), ha]
  rfl
set_option maxRecDepth 16384 in
theorem fqoE_162 {c : ByteArray} {p : Nat} {l : List UInt8} {a : Int} (hl : c.data.toList.drop p = l) (h : fqwE l 162 a = true) : decode c p = .ok (.if_icmp .ge a, 3) := by
  obtain ⟨b, x, y, r, rfl, hb, ha⟩ := fqwE_el h
  refine fqde ?_
  unfold Decoder.instr
  rw [fqb1 hl, hb]
  show ((Reader.s2 : Decoder Int) >>= fun a => (Pure.pure (Instr.if_icmp .ge a) : Decoder Instr)) c (p + 1) = _
  rw [fqs2 (fqnx hl), ha]
  rfl
set_option maxRecDepth 16384 in
theorem fqoE_163 {c : ByteArray} {p : Nat} {l : List UInt8} {a : Int} (hl : c.data.toList.drop p = l) (h : fqwE l 163 a = true) : decode c p = .ok (.if_icmp .gt a, 3) := by
  obtain ⟨b, x, y, r, rfl, hb, ha⟩ := fqwE_el h
  refine fqde ?_
  unfold Decoder.instr
  rw [fqb1 hl, hb]
  show ((Reader.s2 : Decoder Int) >>= fun a => (Pure.pure (Instr.if_icmp .gt a) : Decoder Instr)) c (p + 1) = _
  rw [fqs2 (fqnx hl), ha]
  rfl
set_option maxRecDepth 16384 in
theorem fqoE_164 {c : ByteArray} {p : Nat} {l : List UInt8} {a : Int} (hl : c.data.toList.drop p = l) (h : fqwE l 164 a = true) : decode c p = .ok (.if_icmp .le a, 3) := by
  obtain ⟨b, x, y, r, rfl, hb, ha⟩ := fqwE_el h
  refine fqde ?_
  unfold Decoder.instr
  rw [fqb1 hl, hb]
  show ((Reader.s2 : Decoder Int) >>= fun a => (Pure.pure (Instr.if_icmp .le a) : Decoder Instr)) c (p + 1) = _
  rw [fqs2 (fqnx hl), ha]
  rfl
set_option maxRecDepth 16384 in
theorem fqoE_167 {c : ByteArray} {p : Nat} {l : List UInt8} {a : Int} (hl : c.data.toList.drop p = l) (h : fqwE l 167 a = true) : decode c p = .ok (.goto a, 3) := by
  obtain ⟨b, x, y, r, rfl, hb, ha⟩ := fqwE_el h
  refine fqde ?_
  unfold Decoder.instr
  rw [fqb1 hl, hb]
  show ((Reader.s2 : Decoder Int) >>= fun a => (Pure.pure (Instr.goto a) : Decoder Instr)) c (p + 1) = _
  rw [fqs2 (fqnx hl), ha]
  rfl
set_option maxRecDepth 16384 in
theorem fqoA_172 {c : ByteArray} {p : Nat} {l : List UInt8} (hl : c.data.toList.drop p = l) (h : fqwA l 172 = true) : decode c p = .ok (.ireturn, 1) := by
  obtain ⟨b, r, rfl, hb⟩ := fqwA_el h
  refine fqde ?_
  unfold Decoder.instr
  rw [fqb1 hl, hb]
  rfl
set_option maxRecDepth 16384 in
theorem fqoA_177 {c : ByteArray} {p : Nat} {l : List UInt8} (hl : c.data.toList.drop p = l) (h : fqwA l 177 = true) : decode c p = .ok (.return_, 1) := by
  obtain ⟨b, r, rfl, hb⟩ := fqwA_el h
  refine fqde ?_
  unfold Decoder.instr
  rw [fqb1 hl, hb]
  rfl
set_option maxRecDepth 16384 in
theorem fqoD_178 {c : ByteArray} {p : Nat} {l : List UInt8} {a : Nat} (hl : c.data.toList.drop p = l) (h : fqwD l 178 a = true) : decode c p = .ok (.getstatic a, 3) := by
  obtain ⟨b, x, y, r, rfl, hb, ha⟩ := fqwD_el h
  refine fqde ?_
  unfold Decoder.instr
  rw [fqb1 hl, hb]
  show ((Reader.u2 : Decoder Nat) >>= fun a => (Pure.pure (Instr.getstatic a) : Decoder Instr)) c (p + 1) = _
  rw [fqb2 (fqnx hl), ha]
  rfl
set_option maxRecDepth 16384 in
theorem fqoD_180 {c : ByteArray} {p : Nat} {l : List UInt8} {a : Nat} (hl : c.data.toList.drop p = l) (h : fqwD l 180 a = true) : decode c p = .ok (.getfield a, 3) := by
  obtain ⟨b, x, y, r, rfl, hb, ha⟩ := fqwD_el h
  refine fqde ?_
  unfold Decoder.instr
  rw [fqb1 hl, hb]
  show ((Reader.u2 : Decoder Nat) >>= fun a => (Pure.pure (Instr.getfield a) : Decoder Instr)) c (p + 1) = _
  rw [fqb2 (fqnx hl), ha]
  rfl
set_option maxRecDepth 16384 in
theorem fqoD_181 {c : ByteArray} {p : Nat} {l : List UInt8} {a : Nat} (hl : c.data.toList.drop p = l) (h : fqwD l 181 a = true) : decode c p = .ok (.putfield a, 3) := by
  obtain ⟨b, x, y, r, rfl, hb, ha⟩ := fqwD_el h
  refine fqde ?_
  unfold Decoder.instr
  rw [fqb1 hl, hb]
  show ((Reader.u2 : Decoder Nat) >>= fun a => (Pure.pure (Instr.putfield a) : Decoder Instr)) c (p + 1) = _
  rw [fqb2 (fqnx hl), ha]
  rfl
set_option maxRecDepth 16384 in
theorem fqoD_182 {c : ByteArray} {p : Nat} {l : List UInt8} {a : Nat} (hl : c.data.toList.drop p = l) (h : fqwD l 182 a = true) : decode c p = .ok (.invokevirtual a, 3) := by
  obtain ⟨b, x, y, r, rfl, hb, ha⟩ := fqwD_el h
  refine fqde ?_
  unfold Decoder.instr
  rw [fqb1 hl, hb]
  show ((Reader.u2 : Decoder Nat) >>= fun a => (Pure.pure (Instr.invokevirtual a) : Decoder Instr)) c (p + 1) = _
  rw [fqb2 (fqnx hl), ha]
  rfl
set_option maxRecDepth 16384 in
theorem fqoD_183 {c : ByteArray} {p : Nat} {l : List UInt8} {a : Nat} (hl : c.data.toList.drop p = l) (h : fqwD l 183 a = true) : decode c p = .ok (.invokespecial a, 3) := by
  obtain ⟨b, x, y, r, rfl, hb, ha⟩ := fqwD_el h
  refine fqde ?_
  unfold Decoder.instr
  rw [fqb1 hl, hb]
  show ((Reader.u2 : Decoder Nat) >>= fun a => (Pure.pure (Instr.invokespecial a) : Decoder Instr)) c (p + 1) = _
  rw [fqb2 (fqnx hl), ha]
  rfl
set_option maxRecDepth 16384 in
theorem fqoD_184 {c : ByteArray} {p : Nat} {l : List UInt8} {a : Nat} (hl : c.data.toList.drop p = l) (h : fqwD l 184 a = true) : decode c p = .ok (.invokestatic a, 3) := by
  obtain ⟨b, x, y, r, rfl, hb, ha⟩ := fqwD_el h
  refine fqde ?_
  unfold Decoder.instr
  rw [fqb1 hl, hb]
  show ((Reader.u2 : Decoder Nat) >>= fun a => (Pure.pure (Instr.invokestatic a) : Decoder Instr)) c (p + 1) = _
  rw [fqb2 (fqnx hl), ha]
  rfl
set_option maxRecDepth 16384 in
theorem fqoD_187 {c : ByteArray} {p : Nat} {l : List UInt8} {a : Nat} (hl : c.data.toList.drop p = l) (h : fqwD l 187 a = true) : decode c p = .ok (.new a, 3) := by
  obtain ⟨b, x, y, r, rfl, hb, ha⟩ := fqwD_el h
  refine fqde ?_
  unfold Decoder.instr
  rw [fqb1 hl, hb]
  show ((Reader.u2 : Decoder Nat) >>= fun a => (Pure.pure (Instr.new a) : Decoder Instr)) c (p + 1) = _
  rw [fqb2 (fqnx hl), ha]
  rfl
set_option maxRecDepth 16384 in
theorem fqoA_190 {c : ByteArray} {p : Nat} {l : List UInt8} (hl : c.data.toList.drop p = l) (h : fqwA l 190 = true) : decode c p = .ok (.arraylength, 1) := by
  obtain ⟨b, r, rfl, hb⟩ := fqwA_el h
  refine fqde ?_
  unfold Decoder.instr
  rw [fqb1 hl, hb]
  rfl
set_option maxRecDepth 16384 in
theorem fqoA_191 {c : ByteArray} {p : Nat} {l : List UInt8} (hl : c.data.toList.drop p = l) (h : fqwA l 191 = true) : decode c p = .ok (.athrow, 1) := by
  obtain ⟨b, r, rfl, hb⟩ := fqwA_el h
  refine fqde ?_
  unfold Decoder.instr
  rw [fqb1 hl, hb]
  rfl
theorem dX0_init_0 : decode cX0_init 0 = .ok (.aload_n 0, 1) := fqoA_42 rfl (by decide +kernel)
theorem dX0_init_1 : decode cX0_init 1 = .ok (.invokespecial 3, 3) := fqoD_183 rfl (by decide +kernel)
theorem dX0_init_4 : decode cX0_init 4 = .ok (.aload_n 0, 1) := fqoA_42 rfl (by decide +kernel)
theorem dX0_init_5 : decode cX0_init 5 = .ok (.iconst 0, 1) := fqoA_3 rfl (by decide +kernel)
theorem dX0_init_6 : decode cX0_init 6 = .ok (.putfield 9, 3) := fqoD_181 rfl (by decide +kernel)
theorem dX0_init_9 : decode cX0_init 9 = .ok (.aload_n 0, 1) := fqoA_42 rfl (by decide +kernel)
theorem dX0_init_10 : decode cX0_init 10 = .ok (.ldc 15, 2) := fqoB_18 rfl (by decide +kernel)
theorem dX0_init_12 : decode cX0_init 12 = .ok (.putfield 16, 3) := fqoD_181 rfl (by decide +kernel)
theorem dX0_init_15 : decode cX0_init 15 = .ok (.return_, 1) := fqoA_177 rfl (by decide +kernel)
theorem dX0_measure_0 : decode cX0_measure 0 = .ok (.aload_n 0, 1) := fqoA_42 rfl (by decide +kernel)
theorem dX0_measure_1 : decode cX0_measure 1 = .ok (.iconst 0, 1) := fqoA_3 rfl (by decide +kernel)
theorem dX0_measure_2 : decode cX0_measure 2 = .ok (.putfield 9, 3) := fqoD_181 rfl (by decide +kernel)
theorem dX0_measure_5 : decode cX0_measure 5 = .ok (.aload_n 0, 1) := fqoA_42 rfl (by decide +kernel)
theorem dX0_measure_6 : decode cX0_measure 6 = .ok (.ldc 15, 2) := fqoB_18 rfl (by decide +kernel)
theorem dX0_measure_8 : decode cX0_measure 8 = .ok (.putfield 16, 3) := fqoD_181 rfl (by decide +kernel)
theorem dX0_measure_11 : decode cX0_measure 11 = .ok (.iload_n 2, 1) := fqoA_28 rfl (by decide +kernel)
theorem dX0_measure_12 : decode cX0_measure 12 = .ok (.istore_n 3, 1) := fqoA_62 rfl (by decide +kernel)
theorem dX0_measure_13 : decode cX0_measure 13 = .ok (.ldc 15, 2) := fqoB_18 rfl (by decide +kernel)
theorem dX0_measure_15 : decode cX0_measure 15 = .ok (.istore 4, 2) := fqoB_54 rfl (by decide +kernel)
theorem dX0_measure_17 : decode cX0_measure 17 = .ok (.iconst 0, 1) := fqoA_3 rfl (by decide +kernel)
theorem dX0_measure_18 : decode cX0_measure 18 = .ok (.istore 5, 2) := fqoB_54 rfl (by decide +kernel)
theorem dX0_measure_20 : decode cX0_measure 20 = .ok (.iload 5, 2) := fqoB_21 rfl (by decide +kernel)
theorem dX0_measure_22 : decode cX0_measure 22 = .ok (.bipush 30, 2) := fqoC_16 rfl (by decide +kernel)
theorem dX0_measure_24 : decode cX0_measure 24 = .ok (.if_icmp .ge 78, 3) := fqoE_162 rfl (by decide +kernel)
theorem dX0_measure_27 : decode cX0_measure 27 = .ok (.iload_n 3, 1) := fqoA_29 rfl (by decide +kernel)
theorem dX0_measure_28 : decode cX0_measure 28 = .ok (.ifCond .le 74, 3) := fqoE_158 rfl (by decide +kernel)
theorem dX0_measure_31 : decode cX0_measure 31 = .ok (.aload_n 1, 1) := fqoA_43 rfl (by decide +kernel)
theorem dX0_measure_32 : decode cX0_measure 32 = .ok (.iload 4, 2) := fqoB_21 rfl (by decide +kernel)
theorem dX0_measure_34 : decode cX0_measure 34 = .ok (.invokestatic 19, 3) := fqoD_184 rfl (by decide +kernel)
theorem dX0_measure_37 : decode cX0_measure 37 = .ok (.istore 6, 2) := fqoB_54 rfl (by decide +kernel)
theorem dX0_measure_39 : decode cX0_measure 39 = .ok (.aload_n 1, 1) := fqoA_43 rfl (by decide +kernel)
theorem dX0_measure_40 : decode cX0_measure 40 = .ok (.iload 6, 2) := fqoB_21 rfl (by decide +kernel)
theorem dX0_measure_42 : decode cX0_measure 42 = .ok (.invokestatic 23, 3) := fqoD_184 rfl (by decide +kernel)
theorem dX0_measure_45 : decode cX0_measure 45 = .ok (.istore 7, 2) := fqoB_54 rfl (by decide +kernel)
theorem dX0_measure_47 : decode cX0_measure 47 = .ok (.iload 7, 2) := fqoB_21 rfl (by decide +kernel)
theorem dX0_measure_49 : decode cX0_measure 49 = .ok (.ifCond .ne 4, 3) := fqoE_154 rfl (by decide +kernel)
theorem dX0_measure_52 : decode cX0_measure 52 = .ok (.return_, 1) := fqoA_177 rfl (by decide +kernel)
theorem dX0_measure_53 : decode cX0_measure 53 = .ok (.iload 7, 2) := fqoB_21 rfl (by decide +kernel)
theorem dX0_measure_55 : decode cX0_measure 55 = .ok (.iload_n 3, 1) := fqoA_29 rfl (by decide +kernel)
theorem dX0_measure_56 : decode cX0_measure 56 = .ok (.if_icmp .ge 8, 3) := fqoE_162 rfl (by decide +kernel)
theorem dX0_measure_59 : decode cX0_measure 59 = .ok (.iload 7, 2) := fqoB_21 rfl (by decide +kernel)
theorem dX0_measure_61 : decode cX0_measure 61 = .ok (.goto 4, 3) := fqoE_167 rfl (by decide +kernel)
theorem dX0_measure_64 : decode cX0_measure 64 = .ok (.iload_n 3, 1) := fqoA_29 rfl (by decide +kernel)
theorem dX0_measure_65 : decode cX0_measure 65 = .ok (.istore 8, 2) := fqoB_54 rfl (by decide +kernel)
theorem dX0_measure_67 : decode cX0_measure 67 = .ok (.aload_n 0, 1) := fqoA_42 rfl (by decide +kernel)
theorem dX0_measure_68 : decode cX0_measure 68 = .ok (.dup, 1) := fqoA_89 rfl (by decide +kernel)
theorem dX0_measure_69 : decode cX0_measure 69 = .ok (.getfield 9, 3) := fqoD_180 rfl (by decide +kernel)
theorem dX0_measure_72 : decode cX0_measure 72 = .ok (.iload 8, 2) := fqoB_21 rfl (by decide +kernel)
theorem dX0_measure_74 : decode cX0_measure 74 = .ok (.iload 6, 2) := fqoB_21 rfl (by decide +kernel)
theorem dX0_measure_76 : decode cX0_measure 76 = .ok (.imul, 1) := fqoA_104 rfl (by decide +kernel)
theorem dX0_measure_77 : decode cX0_measure 77 = .ok (.iadd, 1) := fqoA_96 rfl (by decide +kernel)
theorem dX0_measure_78 : decode cX0_measure 78 = .ok (.putfield 9, 3) := fqoD_181 rfl (by decide +kernel)
theorem dX0_measure_81 : decode cX0_measure 81 = .ok (.iload_n 3, 1) := fqoA_29 rfl (by decide +kernel)
theorem dX0_measure_82 : decode cX0_measure 82 = .ok (.iload 8, 2) := fqoB_21 rfl (by decide +kernel)
theorem dX0_measure_84 : decode cX0_measure 84 = .ok (.isub, 1) := fqoA_100 rfl (by decide +kernel)
theorem dX0_measure_85 : decode cX0_measure 85 = .ok (.istore_n 3, 1) := fqoA_62 rfl (by decide +kernel)
theorem dX0_measure_86 : decode cX0_measure 86 = .ok (.aload_n 0, 1) := fqoA_42 rfl (by decide +kernel)
theorem dX0_measure_87 : decode cX0_measure 87 = .ok (.iload 6, 2) := fqoB_21 rfl (by decide +kernel)
theorem dX0_measure_89 : decode cX0_measure 89 = .ok (.putfield 16, 3) := fqoD_181 rfl (by decide +kernel)
theorem dX0_measure_92 : decode cX0_measure 92 = .ok (.iload 6, 2) := fqoB_21 rfl (by decide +kernel)
theorem dX0_measure_94 : decode cX0_measure 94 = .ok (.istore 4, 2) := fqoB_54 rfl (by decide +kernel)
theorem dX0_measure_96 : decode cX0_measure 96 = .ok (.iinc 5 1, 3) := fqoF_132 rfl (by decide +kernel)
theorem dX0_measure_99 : decode cX0_measure 99 = .ok (.goto (-79), 3) := fqoE_167 rfl (by decide +kernel)
theorem dX0_measure_102 : decode cX0_measure 102 = .ok (.return_, 1) := fqoA_177 rfl (by decide +kernel)
theorem dX0_nextMarginal_0 : decode cX0_nextMarginal 0 = .ok (.ldc 28, 2) := fqoB_18 rfl (by decide +kernel)
theorem dX0_nextMarginal_2 : decode cX0_nextMarginal 2 = .ok (.istore_n 2, 1) := fqoA_61 rfl (by decide +kernel)
theorem dX0_nextMarginal_3 : decode cX0_nextMarginal 3 = .ok (.iconst 0, 1) := fqoA_3 rfl (by decide +kernel)
theorem dX0_nextMarginal_4 : decode cX0_nextMarginal 4 = .ok (.istore_n 3, 1) := fqoA_62 rfl (by decide +kernel)
theorem dX0_nextMarginal_5 : decode cX0_nextMarginal 5 = .ok (.iload_n 3, 1) := fqoA_29 rfl (by decide +kernel)
theorem dX0_nextMarginal_6 : decode cX0_nextMarginal 6 = .ok (.aload_n 0, 1) := fqoA_42 rfl (by decide +kernel)
theorem dX0_nextMarginal_7 : decode cX0_nextMarginal 7 = .ok (.getfield 29, 3) := fqoD_180 rfl (by decide +kernel)
theorem dX0_nextMarginal_10 : decode cX0_nextMarginal 10 = .ok (.if_icmp .ge 73, 3) := fqoE_162 rfl (by decide +kernel)
theorem dX0_nextMarginal_13 : decode cX0_nextMarginal 13 = .ok (.iconst 0, 1) := fqoA_3 rfl (by decide +kernel)
theorem dX0_nextMarginal_14 : decode cX0_nextMarginal 14 = .ok (.istore 4, 2) := fqoB_54 rfl (by decide +kernel)
theorem dX0_nextMarginal_16 : decode cX0_nextMarginal 16 = .ok (.iload 4, 2) := fqoB_21 rfl (by decide +kernel)
theorem dX0_nextMarginal_18 : decode cX0_nextMarginal 18 = .ok (.aload_n 0, 1) := fqoA_42 rfl (by decide +kernel)
theorem dX0_nextMarginal_19 : decode cX0_nextMarginal 19 = .ok (.getfield 34, 3) := fqoD_180 rfl (by decide +kernel)
theorem dX0_nextMarginal_22 : decode cX0_nextMarginal 22 = .ok (.iload_n 3, 1) := fqoA_29 rfl (by decide +kernel)
theorem dX0_nextMarginal_23 : decode cX0_nextMarginal 23 = .ok (.iaload, 1) := fqoA_46 rfl (by decide +kernel)
theorem dX0_nextMarginal_24 : decode cX0_nextMarginal 24 = .ok (.if_icmp .ge 53, 3) := fqoE_162 rfl (by decide +kernel)
theorem dX0_nextMarginal_27 : decode cX0_nextMarginal 27 = .ok (.aload_n 0, 1) := fqoA_42 rfl (by decide +kernel)
theorem dX0_nextMarginal_28 : decode cX0_nextMarginal 28 = .ok (.getfield 38, 3) := fqoD_180 rfl (by decide +kernel)
theorem dX0_nextMarginal_31 : decode cX0_nextMarginal 31 = .ok (.iload_n 3, 1) := fqoA_29 rfl (by decide +kernel)
theorem dX0_nextMarginal_32 : decode cX0_nextMarginal 32 = .ok (.iload 4, 2) := fqoB_21 rfl (by decide +kernel)
theorem dX0_nextMarginal_34 : decode cX0_nextMarginal 34 = .ok (.invokestatic 41, 3) := fqoD_184 rfl (by decide +kernel)
theorem dX0_nextMarginal_37 : decode cX0_nextMarginal 37 = .ok (.iaload, 1) := fqoA_46 rfl (by decide +kernel)
theorem dX0_nextMarginal_38 : decode cX0_nextMarginal 38 = .ok (.aload_n 0, 1) := fqoA_42 rfl (by decide +kernel)
theorem dX0_nextMarginal_39 : decode cX0_nextMarginal 39 = .ok (.iload_n 3, 1) := fqoA_29 rfl (by decide +kernel)
theorem dX0_nextMarginal_40 : decode cX0_nextMarginal 40 = .ok (.invokevirtual 45, 3) := fqoD_182 rfl (by decide +kernel)
theorem dX0_nextMarginal_43 : decode cX0_nextMarginal 43 = .ok (.iadd, 1) := fqoA_96 rfl (by decide +kernel)
theorem dX0_nextMarginal_44 : decode cX0_nextMarginal 44 = .ok (.istore 5, 2) := fqoB_54 rfl (by decide +kernel)
theorem dX0_nextMarginal_46 : decode cX0_nextMarginal 46 = .ok (.aload_n 0, 1) := fqoA_42 rfl (by decide +kernel)
theorem dX0_nextMarginal_47 : decode cX0_nextMarginal 47 = .ok (.iload_n 3, 1) := fqoA_29 rfl (by decide +kernel)
theorem dX0_nextMarginal_48 : decode cX0_nextMarginal 48 = .ok (.iload 4, 2) := fqoB_21 rfl (by decide +kernel)
theorem dX0_nextMarginal_50 : decode cX0_nextMarginal 50 = .ok (.invokestatic 49, 3) := fqoD_184 rfl (by decide +kernel)
theorem dX0_nextMarginal_53 : decode cX0_nextMarginal 53 = .ok (.ifCond .eq 18, 3) := fqoE_153 rfl (by decide +kernel)
theorem dX0_nextMarginal_56 : decode cX0_nextMarginal 56 = .ok (.iload 5, 2) := fqoB_21 rfl (by decide +kernel)
theorem dX0_nextMarginal_58 : decode cX0_nextMarginal 58 = .ok (.iload_n 1, 1) := fqoA_27 rfl (by decide +kernel)
theorem dX0_nextMarginal_59 : decode cX0_nextMarginal 59 = .ok (.if_icmp .le 12, 3) := fqoE_164 rfl (by decide +kernel)
theorem dX0_nextMarginal_62 : decode cX0_nextMarginal 62 = .ok (.iload 5, 2) := fqoB_21 rfl (by decide +kernel)
theorem dX0_nextMarginal_64 : decode cX0_nextMarginal 64 = .ok (.iload_n 2, 1) := fqoA_28 rfl (by decide +kernel)
theorem dX0_nextMarginal_65 : decode cX0_nextMarginal 65 = .ok (.if_icmp .ge 6, 3) := fqoE_162 rfl (by decide +kernel)
theorem dX0_nextMarginal_68 : decode cX0_nextMarginal 68 = .ok (.iload 5, 2) := fqoB_21 rfl (by decide +kernel)
theorem dX0_nextMarginal_70 : decode cX0_nextMarginal 70 = .ok (.istore_n 2, 1) := fqoA_61 rfl (by decide +kernel)
theorem dX0_nextMarginal_71 : decode cX0_nextMarginal 71 = .ok (.iinc 4 1, 3) := fqoF_132 rfl (by decide +kernel)
theorem dX0_nextMarginal_74 : decode cX0_nextMarginal 74 = .ok (.goto (-58), 3) := fqoE_167 rfl (by decide +kernel)
theorem dX0_nextMarginal_77 : decode cX0_nextMarginal 77 = .ok (.iinc 3 1, 3) := fqoF_132 rfl (by decide +kernel)
theorem dX0_nextMarginal_80 : decode cX0_nextMarginal 80 = .ok (.goto (-75), 3) := fqoE_167 rfl (by decide +kernel)
theorem dX0_nextMarginal_83 : decode cX0_nextMarginal 83 = .ok (.iload_n 2, 1) := fqoA_28 rfl (by decide +kernel)
theorem dX0_nextMarginal_84 : decode cX0_nextMarginal 84 = .ok (.ireturn, 1) := fqoA_172 rfl (by decide +kernel)
theorem dX0_unitsAtMarginal_0 : decode cX0_unitsAtMarginal 0 = .ok (.iconst 0, 1) := fqoA_3 rfl (by decide +kernel)
theorem dX0_unitsAtMarginal_1 : decode cX0_unitsAtMarginal 1 = .ok (.istore_n 2, 1) := fqoA_61 rfl (by decide +kernel)
theorem dX0_unitsAtMarginal_2 : decode cX0_unitsAtMarginal 2 = .ok (.iconst 0, 1) := fqoA_3 rfl (by decide +kernel)
theorem dX0_unitsAtMarginal_3 : decode cX0_unitsAtMarginal 3 = .ok (.istore_n 3, 1) := fqoA_62 rfl (by decide +kernel)
theorem dX0_unitsAtMarginal_4 : decode cX0_unitsAtMarginal 4 = .ok (.iload_n 3, 1) := fqoA_29 rfl (by decide +kernel)
theorem dX0_unitsAtMarginal_5 : decode cX0_unitsAtMarginal 5 = .ok (.aload_n 0, 1) := fqoA_42 rfl (by decide +kernel)
theorem dX0_unitsAtMarginal_6 : decode cX0_unitsAtMarginal 6 = .ok (.getfield 29, 3) := fqoD_180 rfl (by decide +kernel)
theorem dX0_unitsAtMarginal_9 : decode cX0_unitsAtMarginal 9 = .ok (.if_icmp .ge 74, 3) := fqoE_162 rfl (by decide +kernel)
theorem dX0_unitsAtMarginal_12 : decode cX0_unitsAtMarginal 12 = .ok (.iconst 0, 1) := fqoA_3 rfl (by decide +kernel)
theorem dX0_unitsAtMarginal_13 : decode cX0_unitsAtMarginal 13 = .ok (.istore 4, 2) := fqoB_54 rfl (by decide +kernel)
theorem dX0_unitsAtMarginal_15 : decode cX0_unitsAtMarginal 15 = .ok (.iload 4, 2) := fqoB_21 rfl (by decide +kernel)
theorem dX0_unitsAtMarginal_17 : decode cX0_unitsAtMarginal 17 = .ok (.aload_n 0, 1) := fqoA_42 rfl (by decide +kernel)
theorem dX0_unitsAtMarginal_18 : decode cX0_unitsAtMarginal 18 = .ok (.getfield 34, 3) := fqoD_180 rfl (by decide +kernel)
theorem dX0_unitsAtMarginal_21 : decode cX0_unitsAtMarginal 21 = .ok (.iload_n 3, 1) := fqoA_29 rfl (by decide +kernel)
theorem dX0_unitsAtMarginal_22 : decode cX0_unitsAtMarginal 22 = .ok (.iaload, 1) := fqoA_46 rfl (by decide +kernel)
theorem dX0_unitsAtMarginal_23 : decode cX0_unitsAtMarginal 23 = .ok (.if_icmp .ge 54, 3) := fqoE_162 rfl (by decide +kernel)
theorem dX0_unitsAtMarginal_26 : decode cX0_unitsAtMarginal 26 = .ok (.aload_n 0, 1) := fqoA_42 rfl (by decide +kernel)
theorem dX0_unitsAtMarginal_27 : decode cX0_unitsAtMarginal 27 = .ok (.iload_n 3, 1) := fqoA_29 rfl (by decide +kernel)
theorem dX0_unitsAtMarginal_28 : decode cX0_unitsAtMarginal 28 = .ok (.iload 4, 2) := fqoB_21 rfl (by decide +kernel)
theorem dX0_unitsAtMarginal_30 : decode cX0_unitsAtMarginal 30 = .ok (.invokestatic 49, 3) := fqoD_184 rfl (by decide +kernel)
theorem dX0_unitsAtMarginal_33 : decode cX0_unitsAtMarginal 33 = .ok (.ifCond .eq 38, 3) := fqoE_153 rfl (by decide +kernel)
theorem dX0_unitsAtMarginal_36 : decode cX0_unitsAtMarginal 36 = .ok (.aload_n 0, 1) := fqoA_42 rfl (by decide +kernel)
theorem dX0_unitsAtMarginal_37 : decode cX0_unitsAtMarginal 37 = .ok (.getfield 38, 3) := fqoD_180 rfl (by decide +kernel)
theorem dX0_unitsAtMarginal_40 : decode cX0_unitsAtMarginal 40 = .ok (.iload_n 3, 1) := fqoA_29 rfl (by decide +kernel)
theorem dX0_unitsAtMarginal_41 : decode cX0_unitsAtMarginal 41 = .ok (.iload 4, 2) := fqoB_21 rfl (by decide +kernel)
theorem dX0_unitsAtMarginal_43 : decode cX0_unitsAtMarginal 43 = .ok (.invokestatic 41, 3) := fqoD_184 rfl (by decide +kernel)
theorem dX0_unitsAtMarginal_46 : decode cX0_unitsAtMarginal 46 = .ok (.iaload, 1) := fqoA_46 rfl (by decide +kernel)
theorem dX0_unitsAtMarginal_47 : decode cX0_unitsAtMarginal 47 = .ok (.aload_n 0, 1) := fqoA_42 rfl (by decide +kernel)
theorem dX0_unitsAtMarginal_48 : decode cX0_unitsAtMarginal 48 = .ok (.iload_n 3, 1) := fqoA_29 rfl (by decide +kernel)
theorem dX0_unitsAtMarginal_49 : decode cX0_unitsAtMarginal 49 = .ok (.invokevirtual 45, 3) := fqoD_182 rfl (by decide +kernel)
theorem dX0_unitsAtMarginal_52 : decode cX0_unitsAtMarginal 52 = .ok (.iadd, 1) := fqoA_96 rfl (by decide +kernel)
theorem dX0_unitsAtMarginal_53 : decode cX0_unitsAtMarginal 53 = .ok (.iload_n 1, 1) := fqoA_27 rfl (by decide +kernel)
theorem dX0_unitsAtMarginal_54 : decode cX0_unitsAtMarginal 54 = .ok (.if_icmp .ne 17, 3) := fqoE_160 rfl (by decide +kernel)
theorem dX0_unitsAtMarginal_57 : decode cX0_unitsAtMarginal 57 = .ok (.iload_n 2, 1) := fqoA_28 rfl (by decide +kernel)
theorem dX0_unitsAtMarginal_58 : decode cX0_unitsAtMarginal 58 = .ok (.aload_n 0, 1) := fqoA_42 rfl (by decide +kernel)
theorem dX0_unitsAtMarginal_59 : decode cX0_unitsAtMarginal 59 = .ok (.getfield 53, 3) := fqoD_180 rfl (by decide +kernel)
theorem dX0_unitsAtMarginal_62 : decode cX0_unitsAtMarginal 62 = .ok (.iload_n 3, 1) := fqoA_29 rfl (by decide +kernel)
theorem dX0_unitsAtMarginal_63 : decode cX0_unitsAtMarginal 63 = .ok (.iload 4, 2) := fqoB_21 rfl (by decide +kernel)
theorem dX0_unitsAtMarginal_65 : decode cX0_unitsAtMarginal 65 = .ok (.invokestatic 41, 3) := fqoD_184 rfl (by decide +kernel)
theorem dX0_unitsAtMarginal_68 : decode cX0_unitsAtMarginal 68 = .ok (.iaload, 1) := fqoA_46 rfl (by decide +kernel)
theorem dX0_unitsAtMarginal_69 : decode cX0_unitsAtMarginal 69 = .ok (.iadd, 1) := fqoA_96 rfl (by decide +kernel)
theorem dX0_unitsAtMarginal_70 : decode cX0_unitsAtMarginal 70 = .ok (.istore_n 2, 1) := fqoA_61 rfl (by decide +kernel)
theorem dX0_unitsAtMarginal_71 : decode cX0_unitsAtMarginal 71 = .ok (.iinc 4 1, 3) := fqoF_132 rfl (by decide +kernel)
theorem dX0_unitsAtMarginal_74 : decode cX0_unitsAtMarginal 74 = .ok (.goto (-59), 3) := fqoE_167 rfl (by decide +kernel)
theorem dX0_unitsAtMarginal_77 : decode cX0_unitsAtMarginal 77 = .ok (.iinc 3 1, 3) := fqoF_132 rfl (by decide +kernel)
theorem dX0_unitsAtMarginal_80 : decode cX0_unitsAtMarginal 80 = .ok (.goto (-76), 3) := fqoE_167 rfl (by decide +kernel)
theorem dX0_unitsAtMarginal_83 : decode cX0_unitsAtMarginal 83 = .ok (.iload_n 2, 1) := fqoA_28 rfl (by decide +kernel)
theorem dX0_unitsAtMarginal_84 : decode cX0_unitsAtMarginal 84 = .ok (.ireturn, 1) := fqoA_172 rfl (by decide +kernel)
theorem dX0_counts_0 : decode cX0_counts 0 = .ok (.aload_n 0, 1) := fqoA_42 rfl (by decide +kernel)
theorem dX0_counts_1 : decode cX0_counts 1 = .ok (.getfield 38, 3) := fqoD_180 rfl (by decide +kernel)
theorem dX0_counts_4 : decode cX0_counts 4 = .ok (.iload_n 1, 1) := fqoA_27 rfl (by decide +kernel)
theorem dX0_counts_5 : decode cX0_counts 5 = .ok (.iload_n 2, 1) := fqoA_28 rfl (by decide +kernel)
theorem dX0_counts_6 : decode cX0_counts 6 = .ok (.invokestatic 41, 3) := fqoD_184 rfl (by decide +kernel)
theorem dX0_counts_9 : decode cX0_counts 9 = .ok (.iaload, 1) := fqoA_46 rfl (by decide +kernel)
theorem dX0_counts_10 : decode cX0_counts 10 = .ok (.aload_n 0, 1) := fqoA_42 rfl (by decide +kernel)
theorem dX0_counts_11 : decode cX0_counts 11 = .ok (.getfield 56, 3) := fqoD_180 rfl (by decide +kernel)
theorem dX0_counts_14 : decode cX0_counts 14 = .ok (.if_icmp .gt 20, 3) := fqoE_163 rfl (by decide +kernel)
theorem dX0_counts_17 : decode cX0_counts 17 = .ok (.aload_n 0, 1) := fqoA_42 rfl (by decide +kernel)
theorem dX0_counts_18 : decode cX0_counts 18 = .ok (.getfield 53, 3) := fqoD_180 rfl (by decide +kernel)
theorem dX0_counts_21 : decode cX0_counts 21 = .ok (.iload_n 1, 1) := fqoA_27 rfl (by decide +kernel)
theorem dX0_counts_22 : decode cX0_counts 22 = .ok (.iload_n 2, 1) := fqoA_28 rfl (by decide +kernel)
theorem dX0_counts_23 : decode cX0_counts 23 = .ok (.invokestatic 41, 3) := fqoD_184 rfl (by decide +kernel)
theorem dX0_counts_26 : decode cX0_counts 26 = .ok (.iaload, 1) := fqoA_46 rfl (by decide +kernel)
theorem dX0_counts_27 : decode cX0_counts 27 = .ok (.ifCond .le 7, 3) := fqoE_158 rfl (by decide +kernel)
theorem dX0_counts_30 : decode cX0_counts 30 = .ok (.iconst 1, 1) := fqoA_4 rfl (by decide +kernel)
theorem dX0_counts_31 : decode cX0_counts 31 = .ok (.goto 4, 3) := fqoE_167 rfl (by decide +kernel)
theorem dX0_counts_34 : decode cX0_counts 34 = .ok (.iconst 0, 1) := fqoA_3 rfl (by decide +kernel)
theorem dX0_counts_35 : decode cX0_counts 35 = .ok (.ireturn, 1) := fqoA_172 rfl (by decide +kernel)
theorem dX1_init_0 : decode cX1_init 0 = .ok (.aload_n 0, 1) := fqoA_42 rfl (by decide +kernel)
theorem dX1_init_1 : decode cX1_init 1 = .ok (.invokespecial 3, 3) := fqoD_183 rfl (by decide +kernel)
theorem dX1_init_4 : decode cX1_init 4 = .ok (.aload_n 0, 1) := fqoA_42 rfl (by decide +kernel)
theorem dX1_init_5 : decode cX1_init 5 = .ok (.iconst 0, 1) := fqoA_3 rfl (by decide +kernel)
theorem dX1_init_6 : decode cX1_init 6 = .ok (.putfield 9, 3) := fqoD_181 rfl (by decide +kernel)
theorem dX1_init_9 : decode cX1_init 9 = .ok (.aload_n 0, 1) := fqoA_42 rfl (by decide +kernel)
theorem dX1_init_10 : decode cX1_init 10 = .ok (.iconst 0, 1) := fqoA_3 rfl (by decide +kernel)
theorem dX1_init_11 : decode cX1_init 11 = .ok (.putfield 15, 3) := fqoD_181 rfl (by decide +kernel)
theorem dX1_init_14 : decode cX1_init 14 = .ok (.aload_n 0, 1) := fqoA_42 rfl (by decide +kernel)
theorem dX1_init_15 : decode cX1_init 15 = .ok (.iconst 5, 1) := fqoA_8 rfl (by decide +kernel)
theorem dX1_init_16 : decode cX1_init 16 = .ok (.newarray .int, 2) := by decide +kernel
theorem dX1_init_18 : decode cX1_init 18 = .ok (.putfield 18, 3) := fqoD_181 rfl (by decide +kernel)
theorem dX1_init_21 : decode cX1_init 21 = .ok (.aload_n 0, 1) := fqoA_42 rfl (by decide +kernel)
theorem dX1_init_22 : decode cX1_init 22 = .ok (.iconst 5, 1) := fqoA_8 rfl (by decide +kernel)
theorem dX1_init_23 : decode cX1_init 23 = .ok (.newarray .int, 2) := by decide +kernel
theorem dX1_init_25 : decode cX1_init 25 = .ok (.putfield 22, 3) := fqoD_181 rfl (by decide +kernel)
theorem dX1_init_28 : decode cX1_init 28 = .ok (.aload_n 0, 1) := fqoA_42 rfl (by decide +kernel)
theorem dX1_init_29 : decode cX1_init 29 = .ok (.sipush 605, 3) := fqoE_17 rfl (by decide +kernel)
theorem dX1_init_32 : decode cX1_init 32 = .ok (.newarray .int, 2) := by decide +kernel
theorem dX1_init_34 : decode cX1_init 34 = .ok (.putfield 25, 3) := fqoD_181 rfl (by decide +kernel)
theorem dX1_init_37 : decode cX1_init 37 = .ok (.aload_n 0, 1) := fqoA_42 rfl (by decide +kernel)
theorem dX1_init_38 : decode cX1_init 38 = .ok (.sipush 726, 3) := fqoE_17 rfl (by decide +kernel)
theorem dX1_init_41 : decode cX1_init 41 = .ok (.newarray .int, 2) := by decide +kernel
theorem dX1_init_43 : decode cX1_init 43 = .ok (.putfield 28, 3) := fqoD_181 rfl (by decide +kernel)
theorem dX1_init_46 : decode cX1_init 46 = .ok (.aload_n 0, 1) := fqoA_42 rfl (by decide +kernel)
theorem dX1_init_47 : decode cX1_init 47 = .ok (.bipush 121, 2) := fqoC_16 rfl (by decide +kernel)
theorem dX1_init_49 : decode cX1_init 49 = .ok (.newarray .int, 2) := by decide +kernel
theorem dX1_init_51 : decode cX1_init 51 = .ok (.putfield 31, 3) := fqoD_181 rfl (by decide +kernel)
theorem dX1_init_54 : decode cX1_init 54 = .ok (.return_, 1) := fqoA_177 rfl (by decide +kernel)
theorem dX1_choose_0 : decode cX1_choose 0 = .ok (.aload_n 0, 1) := fqoA_42 rfl (by decide +kernel)
theorem dX1_choose_1 : decode cX1_choose 1 = .ok (.aload_n 1, 1) := fqoA_43 rfl (by decide +kernel)
theorem dX1_choose_2 : decode cX1_choose 2 = .ok (.iload_n 2, 1) := fqoA_28 rfl (by decide +kernel)
theorem dX1_choose_3 : decode cX1_choose 3 = .ok (.iload_n 3, 1) := fqoA_29 rfl (by decide +kernel)
theorem dX1_choose_4 : decode cX1_choose 4 = .ok (.invokevirtual 34, 3) := fqoD_182 rfl (by decide +kernel)
theorem dX1_choose_7 : decode cX1_choose 7 = .ok (.istore 4, 2) := fqoB_54 rfl (by decide +kernel)
theorem dX1_choose_9 : decode cX1_choose 9 = .ok (.iconst 0, 1) := fqoA_3 rfl (by decide +kernel)
theorem dX1_choose_10 : decode cX1_choose 10 = .ok (.istore 5, 2) := fqoB_54 rfl (by decide +kernel)
theorem dX1_choose_12 : decode cX1_choose 12 = .ok (.iload 5, 2) := fqoB_21 rfl (by decide +kernel)
theorem dX1_choose_14 : decode cX1_choose 14 = .ok (.iload 4, 2) := fqoB_21 rfl (by decide +kernel)
theorem dX1_choose_16 : decode cX1_choose 16 = .ok (.if_icmp .gt 35, 3) := fqoE_163 rfl (by decide +kernel)
theorem dX1_choose_19 : decode cX1_choose 19 = .ok (.aload_n 0, 1) := fqoA_42 rfl (by decide +kernel)
theorem dX1_choose_20 : decode cX1_choose 20 = .ok (.getfield 28, 3) := fqoD_180 rfl (by decide +kernel)
theorem dX1_choose_23 : decode cX1_choose 23 = .ok (.aload_n 1, 1) := fqoA_43 rfl (by decide +kernel)
theorem dX1_choose_24 : decode cX1_choose 24 = .ok (.getfield 38, 3) := fqoD_180 rfl (by decide +kernel)
theorem dX1_choose_27 : decode cX1_choose 27 = .ok (.bipush 121, 2) := fqoC_16 rfl (by decide +kernel)
theorem dX1_choose_29 : decode cX1_choose 29 = .ok (.imul, 1) := fqoA_104 rfl (by decide +kernel)
theorem dX1_choose_30 : decode cX1_choose 30 = .ok (.iload 5, 2) := fqoB_21 rfl (by decide +kernel)
theorem dX1_choose_32 : decode cX1_choose 32 = .ok (.iadd, 1) := fqoA_96 rfl (by decide +kernel)
theorem dX1_choose_33 : decode cX1_choose 33 = .ok (.iload 5, 2) := fqoB_21 rfl (by decide +kernel)
theorem dX1_choose_35 : decode cX1_choose 35 = .ok (.ifCond .ne 7, 3) := fqoE_154 rfl (by decide +kernel)
theorem dX1_choose_38 : decode cX1_choose 38 = .ok (.iconst 0, 1) := fqoA_3 rfl (by decide +kernel)
theorem dX1_choose_39 : decode cX1_choose 39 = .ok (.goto 5, 3) := fqoE_167 rfl (by decide +kernel)
theorem dX1_choose_42 : decode cX1_choose 42 = .ok (.ldc 43, 2) := fqoB_18 rfl (by decide +kernel)
theorem dX1_choose_44 : decode cX1_choose 44 = .ok (.iastore, 1) := fqoA_79 rfl (by decide +kernel)
theorem dX1_choose_45 : decode cX1_choose 45 = .ok (.iinc 5 1, 3) := fqoF_132 rfl (by decide +kernel)
theorem dX1_choose_48 : decode cX1_choose 48 = .ok (.goto (-36), 3) := fqoE_167 rfl (by decide +kernel)
theorem dX1_choose_51 : decode cX1_choose 51 = .ok (.aload_n 1, 1) := fqoA_43 rfl (by decide +kernel)
theorem dX1_choose_52 : decode cX1_choose 52 = .ok (.getfield 38, 3) := fqoD_180 rfl (by decide +kernel)
theorem dX1_choose_55 : decode cX1_choose 55 = .ok (.iconst 1, 1) := fqoA_4 rfl (by decide +kernel)
theorem dX1_choose_56 : decode cX1_choose 56 = .ok (.isub, 1) := fqoA_100 rfl (by decide +kernel)
theorem dX1_choose_57 : decode cX1_choose 57 = .ok (.istore 5, 2) := fqoB_54 rfl (by decide +kernel)
theorem dX1_choose_59 : decode cX1_choose 59 = .ok (.iload 5, 2) := fqoB_21 rfl (by decide +kernel)
theorem dX1_choose_61 : decode cX1_choose 61 = .ok (.ifCond .lt 52, 3) := fqoE_155 rfl (by decide +kernel)
theorem dX1_choose_64 : decode cX1_choose 64 = .ok (.iconst 0, 1) := fqoA_3 rfl (by decide +kernel)
theorem dX1_choose_65 : decode cX1_choose 65 = .ok (.istore 6, 2) := fqoB_54 rfl (by decide +kernel)
theorem dX1_choose_67 : decode cX1_choose 67 = .ok (.iload 6, 2) := fqoB_21 rfl (by decide +kernel)
theorem dX1_choose_69 : decode cX1_choose 69 = .ok (.iload 4, 2) := fqoB_21 rfl (by decide +kernel)
theorem dX1_choose_71 : decode cX1_choose 71 = .ok (.if_icmp .gt 36, 3) := fqoE_163 rfl (by decide +kernel)
theorem dX1_choose_74 : decode cX1_choose 74 = .ok (.aload_n 0, 1) := fqoA_42 rfl (by decide +kernel)
theorem dX1_choose_75 : decode cX1_choose 75 = .ok (.getfield 28, 3) := fqoD_180 rfl (by decide +kernel)
theorem dX1_choose_78 : decode cX1_choose 78 = .ok (.iload 5, 2) := fqoB_21 rfl (by decide +kernel)
theorem dX1_choose_80 : decode cX1_choose 80 = .ok (.bipush 121, 2) := fqoC_16 rfl (by decide +kernel)
theorem dX1_choose_82 : decode cX1_choose 82 = .ok (.imul, 1) := fqoA_104 rfl (by decide +kernel)
theorem dX1_choose_83 : decode cX1_choose 83 = .ok (.iload 6, 2) := fqoB_21 rfl (by decide +kernel)
theorem dX1_choose_85 : decode cX1_choose 85 = .ok (.iadd, 1) := fqoA_96 rfl (by decide +kernel)
theorem dX1_choose_86 : decode cX1_choose 86 = .ok (.aload_n 0, 1) := fqoA_42 rfl (by decide +kernel)
theorem dX1_choose_87 : decode cX1_choose 87 = .ok (.iload 5, 2) := fqoB_21 rfl (by decide +kernel)
theorem dX1_choose_89 : decode cX1_choose 89 = .ok (.iload 6, 2) := fqoB_21 rfl (by decide +kernel)
theorem dX1_choose_91 : decode cX1_choose 91 = .ok (.aload_n 1, 1) := fqoA_43 rfl (by decide +kernel)
theorem dX1_choose_92 : decode cX1_choose 92 = .ok (.iload 5, 2) := fqoB_21 rfl (by decide +kernel)
theorem dX1_choose_94 : decode cX1_choose 94 = .ok (.invokevirtual 44, 3) := fqoD_182 rfl (by decide +kernel)
theorem dX1_choose_97 : decode cX1_choose 97 = .ok (.invokevirtual 48, 3) := fqoD_182 rfl (by decide +kernel)
theorem dX1_choose_100 : decode cX1_choose 100 = .ok (.iastore, 1) := fqoA_79 rfl (by decide +kernel)
theorem dX1_choose_101 : decode cX1_choose 101 = .ok (.iinc 6 1, 3) := fqoF_132 rfl (by decide +kernel)
theorem dX1_choose_104 : decode cX1_choose 104 = .ok (.goto (-37), 3) := fqoE_167 rfl (by decide +kernel)
theorem dX1_choose_107 : decode cX1_choose 107 = .ok (.iinc 5 (-1), 3) := fqoF_132 rfl (by decide +kernel)
theorem dX1_choose_110 : decode cX1_choose 110 = .ok (.goto (-51), 3) := fqoE_167 rfl (by decide +kernel)
theorem dX1_choose_113 : decode cX1_choose 113 = .ok (.aload_n 0, 1) := fqoA_42 rfl (by decide +kernel)
theorem dX1_choose_114 : decode cX1_choose 114 = .ok (.aload_n 0, 1) := fqoA_42 rfl (by decide +kernel)
theorem dX1_choose_115 : decode cX1_choose 115 = .ok (.getfield 28, 3) := fqoD_180 rfl (by decide +kernel)
theorem dX1_choose_118 : decode cX1_choose 118 = .ok (.iload 4, 2) := fqoB_21 rfl (by decide +kernel)
theorem dX1_choose_120 : decode cX1_choose 120 = .ok (.invokestatic 52, 3) := fqoD_184 rfl (by decide +kernel)
theorem dX1_choose_123 : decode cX1_choose 123 = .ok (.putfield 9, 3) := fqoD_181 rfl (by decide +kernel)
theorem dX1_choose_126 : decode cX1_choose 126 = .ok (.aload_n 0, 1) := fqoA_42 rfl (by decide +kernel)
theorem dX1_choose_127 : decode cX1_choose 127 = .ok (.aload_n 0, 1) := fqoA_42 rfl (by decide +kernel)
theorem dX1_choose_128 : decode cX1_choose 128 = .ok (.getfield 28, 3) := fqoD_180 rfl (by decide +kernel)
theorem dX1_choose_131 : decode cX1_choose 131 = .ok (.aload_n 0, 1) := fqoA_42 rfl (by decide +kernel)
theorem dX1_choose_132 : decode cX1_choose 132 = .ok (.getfield 9, 3) := fqoD_180 rfl (by decide +kernel)
theorem dX1_choose_135 : decode cX1_choose 135 = .ok (.iaload, 1) := fqoA_46 rfl (by decide +kernel)
theorem dX1_choose_136 : decode cX1_choose 136 = .ok (.putfield 15, 3) := fqoD_181 rfl (by decide +kernel)
theorem dX1_choose_139 : decode cX1_choose 139 = .ok (.aload_n 0, 1) := fqoA_42 rfl (by decide +kernel)
theorem dX1_choose_140 : decode cX1_choose 140 = .ok (.aload_n 1, 1) := fqoA_43 rfl (by decide +kernel)
theorem dX1_choose_141 : decode cX1_choose 141 = .ok (.invokevirtual 56, 3) := fqoD_182 rfl (by decide +kernel)
theorem dX1_choose_144 : decode cX1_choose 144 = .ok (.return_, 1) := fqoA_177 rfl (by decide +kernel)
theorem dX1_prepare_0 : decode cX1_prepare 0 = .ok (.iconst 0, 1) := fqoA_3 rfl (by decide +kernel)
theorem dX1_prepare_1 : decode cX1_prepare 1 = .ok (.istore 4, 2) := fqoB_54 rfl (by decide +kernel)
theorem dX1_prepare_3 : decode cX1_prepare 3 = .ok (.iconst 0, 1) := fqoA_3 rfl (by decide +kernel)
theorem dX1_prepare_4 : decode cX1_prepare 4 = .ok (.istore 5, 2) := fqoB_54 rfl (by decide +kernel)
theorem dX1_prepare_6 : decode cX1_prepare 6 = .ok (.iload 5, 2) := fqoB_21 rfl (by decide +kernel)
theorem dX1_prepare_8 : decode cX1_prepare 8 = .ok (.aload_n 1, 1) := fqoA_43 rfl (by decide +kernel)
theorem dX1_prepare_9 : decode cX1_prepare 9 = .ok (.getfield 38, 3) := fqoD_180 rfl (by decide +kernel)
theorem dX1_prepare_12 : decode cX1_prepare 12 = .ok (.if_icmp .ge 99, 3) := fqoE_162 rfl (by decide +kernel)
theorem dX1_prepare_15 : decode cX1_prepare 15 = .ok (.aload_n 0, 1) := fqoA_42 rfl (by decide +kernel)
theorem dX1_prepare_16 : decode cX1_prepare 16 = .ok (.getfield 22, 3) := fqoD_180 rfl (by decide +kernel)
theorem dX1_prepare_19 : decode cX1_prepare 19 = .ok (.iload 5, 2) := fqoB_21 rfl (by decide +kernel)
theorem dX1_prepare_21 : decode cX1_prepare 21 = .ok (.iload 5, 2) := fqoB_21 rfl (by decide +kernel)
theorem dX1_prepare_23 : decode cX1_prepare 23 = .ok (.iload_n 3, 1) := fqoA_29 rfl (by decide +kernel)
theorem dX1_prepare_24 : decode cX1_prepare 24 = .ok (.if_icmp .ne 7, 3) := fqoE_160 rfl (by decide +kernel)
theorem dX1_prepare_27 : decode cX1_prepare 27 = .ok (.iconst 0, 1) := fqoA_3 rfl (by decide +kernel)
theorem dX1_prepare_28 : decode cX1_prepare 28 = .ok (.goto 10, 3) := fqoE_167 rfl (by decide +kernel)
theorem dX1_prepare_31 : decode cX1_prepare 31 = .ok (.aload_n 1, 1) := fqoA_43 rfl (by decide +kernel)
theorem dX1_prepare_32 : decode cX1_prepare 32 = .ok (.iload 5, 2) := fqoB_21 rfl (by decide +kernel)
theorem dX1_prepare_34 : decode cX1_prepare 34 = .ok (.iload_n 2, 1) := fqoA_28 rfl (by decide +kernel)
theorem dX1_prepare_35 : decode cX1_prepare 35 = .ok (.invokevirtual 60, 3) := fqoD_182 rfl (by decide +kernel)
theorem dX1_prepare_38 : decode cX1_prepare 38 = .ok (.iastore, 1) := fqoA_79 rfl (by decide +kernel)
theorem dX1_prepare_39 : decode cX1_prepare 39 = .ok (.iload 4, 2) := fqoB_21 rfl (by decide +kernel)
theorem dX1_prepare_41 : decode cX1_prepare 41 = .ok (.aload_n 0, 1) := fqoA_42 rfl (by decide +kernel)
theorem dX1_prepare_42 : decode cX1_prepare 42 = .ok (.getfield 22, 3) := fqoD_180 rfl (by decide +kernel)
theorem dX1_prepare_45 : decode cX1_prepare 45 = .ok (.iload 5, 2) := fqoB_21 rfl (by decide +kernel)
theorem dX1_prepare_47 : decode cX1_prepare 47 = .ok (.iaload, 1) := fqoA_46 rfl (by decide +kernel)
theorem dX1_prepare_48 : decode cX1_prepare 48 = .ok (.iadd, 1) := fqoA_96 rfl (by decide +kernel)
theorem dX1_prepare_49 : decode cX1_prepare 49 = .ok (.istore 4, 2) := fqoB_54 rfl (by decide +kernel)
theorem dX1_prepare_51 : decode cX1_prepare 51 = .ok (.aload_n 1, 1) := fqoA_43 rfl (by decide +kernel)
theorem dX1_prepare_52 : decode cX1_prepare 52 = .ok (.iload 5, 2) := fqoB_21 rfl (by decide +kernel)
theorem dX1_prepare_54 : decode cX1_prepare 54 = .ok (.invokevirtual 44, 3) := fqoD_182 rfl (by decide +kernel)
theorem dX1_prepare_57 : decode cX1_prepare 57 = .ok (.istore 6, 2) := fqoB_54 rfl (by decide +kernel)
theorem dX1_prepare_59 : decode cX1_prepare 59 = .ok (.iconst 0, 1) := fqoA_3 rfl (by decide +kernel)
theorem dX1_prepare_60 : decode cX1_prepare 60 = .ok (.istore 7, 2) := fqoB_54 rfl (by decide +kernel)
theorem dX1_prepare_62 : decode cX1_prepare 62 = .ok (.iload 7, 2) := fqoB_21 rfl (by decide +kernel)
theorem dX1_prepare_64 : decode cX1_prepare 64 = .ok (.aload_n 0, 1) := fqoA_42 rfl (by decide +kernel)
theorem dX1_prepare_65 : decode cX1_prepare 65 = .ok (.getfield 22, 3) := fqoD_180 rfl (by decide +kernel)
theorem dX1_prepare_68 : decode cX1_prepare 68 = .ok (.iload 5, 2) := fqoB_21 rfl (by decide +kernel)
theorem dX1_prepare_70 : decode cX1_prepare 70 = .ok (.iaload, 1) := fqoA_46 rfl (by decide +kernel)
theorem dX1_prepare_71 : decode cX1_prepare 71 = .ok (.if_icmp .gt 34, 3) := fqoE_163 rfl (by decide +kernel)
theorem dX1_prepare_74 : decode cX1_prepare 74 = .ok (.aload_n 0, 1) := fqoA_42 rfl (by decide +kernel)
theorem dX1_prepare_75 : decode cX1_prepare 75 = .ok (.getfield 25, 3) := fqoD_180 rfl (by decide +kernel)
theorem dX1_prepare_78 : decode cX1_prepare 78 = .ok (.iload 5, 2) := fqoB_21 rfl (by decide +kernel)
theorem dX1_prepare_80 : decode cX1_prepare 80 = .ok (.bipush 121, 2) := fqoC_16 rfl (by decide +kernel)
theorem dX1_prepare_82 : decode cX1_prepare 82 = .ok (.imul, 1) := fqoA_104 rfl (by decide +kernel)
theorem dX1_prepare_83 : decode cX1_prepare 83 = .ok (.iload 7, 2) := fqoB_21 rfl (by decide +kernel)
theorem dX1_prepare_85 : decode cX1_prepare 85 = .ok (.iadd, 1) := fqoA_96 rfl (by decide +kernel)
theorem dX1_prepare_86 : decode cX1_prepare 86 = .ok (.aload_n 1, 1) := fqoA_43 rfl (by decide +kernel)
theorem dX1_prepare_87 : decode cX1_prepare 87 = .ok (.iload 5, 2) := fqoB_21 rfl (by decide +kernel)
theorem dX1_prepare_89 : decode cX1_prepare 89 = .ok (.iload 7, 2) := fqoB_21 rfl (by decide +kernel)
theorem dX1_prepare_91 : decode cX1_prepare 91 = .ok (.invokevirtual 64, 3) := fqoD_182 rfl (by decide +kernel)
theorem dX1_prepare_94 : decode cX1_prepare 94 = .ok (.iastore, 1) := fqoA_79 rfl (by decide +kernel)
theorem dX1_prepare_95 : decode cX1_prepare 95 = .ok (.iload 7, 2) := fqoB_21 rfl (by decide +kernel)
theorem dX1_prepare_97 : decode cX1_prepare 97 = .ok (.iload 6, 2) := fqoB_21 rfl (by decide +kernel)
theorem dX1_prepare_99 : decode cX1_prepare 99 = .ok (.iadd, 1) := fqoA_96 rfl (by decide +kernel)
theorem dX1_prepare_100 : decode cX1_prepare 100 = .ok (.istore 7, 2) := fqoB_54 rfl (by decide +kernel)
theorem dX1_prepare_102 : decode cX1_prepare 102 = .ok (.goto (-40), 3) := fqoE_167 rfl (by decide +kernel)
theorem dX1_prepare_105 : decode cX1_prepare 105 = .ok (.iinc 5 1, 3) := fqoF_132 rfl (by decide +kernel)
theorem dX1_prepare_108 : decode cX1_prepare 108 = .ok (.goto (-102), 3) := fqoE_167 rfl (by decide +kernel)
theorem dX1_prepare_111 : decode cX1_prepare 111 = .ok (.iload 4, 2) := fqoB_21 rfl (by decide +kernel)
theorem dX1_prepare_113 : decode cX1_prepare 113 = .ok (.iload_n 2, 1) := fqoA_28 rfl (by decide +kernel)
theorem dX1_prepare_114 : decode cX1_prepare 114 = .ok (.if_icmp .ge 8, 3) := fqoE_162 rfl (by decide +kernel)
theorem dX1_prepare_117 : decode cX1_prepare 117 = .ok (.iload 4, 2) := fqoB_21 rfl (by decide +kernel)
theorem dX1_prepare_119 : decode cX1_prepare 119 = .ok (.goto 4, 3) := fqoE_167 rfl (by decide +kernel)
theorem dX1_prepare_122 : decode cX1_prepare 122 = .ok (.iload_n 2, 1) := fqoA_28 rfl (by decide +kernel)
theorem dX1_prepare_123 : decode cX1_prepare 123 = .ok (.ireturn, 1) := fqoA_172 rfl (by decide +kernel)
theorem dX1_leastCostFrom_0 : decode cX1_leastCostFrom 0 = .ok (.ldc 43, 2) := fqoB_18 rfl (by decide +kernel)
theorem dX1_leastCostFrom_2 : decode cX1_leastCostFrom 2 = .ok (.istore 4, 2) := fqoB_54 rfl (by decide +kernel)
theorem dX1_leastCostFrom_4 : decode cX1_leastCostFrom 4 = .ok (.aload_n 0, 1) := fqoA_42 rfl (by decide +kernel)
theorem dX1_leastCostFrom_5 : decode cX1_leastCostFrom 5 = .ok (.getfield 22, 3) := fqoD_180 rfl (by decide +kernel)
theorem dX1_leastCostFrom_8 : decode cX1_leastCostFrom 8 = .ok (.iload_n 1, 1) := fqoA_27 rfl (by decide +kernel)
theorem dX1_leastCostFrom_9 : decode cX1_leastCostFrom 9 = .ok (.iaload, 1) := fqoA_46 rfl (by decide +kernel)
theorem dX1_leastCostFrom_10 : decode cX1_leastCostFrom 10 = .ok (.iload_n 2, 1) := fqoA_28 rfl (by decide +kernel)
theorem dX1_leastCostFrom_11 : decode cX1_leastCostFrom 11 = .ok (.if_icmp .ge 12, 3) := fqoE_162 rfl (by decide +kernel)
theorem dX1_leastCostFrom_14 : decode cX1_leastCostFrom 14 = .ok (.aload_n 0, 1) := fqoA_42 rfl (by decide +kernel)
theorem dX1_leastCostFrom_15 : decode cX1_leastCostFrom 15 = .ok (.getfield 22, 3) := fqoD_180 rfl (by decide +kernel)
theorem dX1_leastCostFrom_18 : decode cX1_leastCostFrom 18 = .ok (.iload_n 1, 1) := fqoA_27 rfl (by decide +kernel)
theorem dX1_leastCostFrom_19 : decode cX1_leastCostFrom 19 = .ok (.iaload, 1) := fqoA_46 rfl (by decide +kernel)
theorem dX1_leastCostFrom_20 : decode cX1_leastCostFrom 20 = .ok (.goto 4, 3) := fqoE_167 rfl (by decide +kernel)
theorem dX1_leastCostFrom_23 : decode cX1_leastCostFrom 23 = .ok (.iload_n 2, 1) := fqoA_28 rfl (by decide +kernel)
theorem dX1_leastCostFrom_24 : decode cX1_leastCostFrom 24 = .ok (.istore 5, 2) := fqoB_54 rfl (by decide +kernel)
theorem dX1_leastCostFrom_26 : decode cX1_leastCostFrom 26 = .ok (.iconst 0, 1) := fqoA_3 rfl (by decide +kernel)
theorem dX1_leastCostFrom_27 : decode cX1_leastCostFrom 27 = .ok (.istore 6, 2) := fqoB_54 rfl (by decide +kernel)
theorem dX1_leastCostFrom_29 : decode cX1_leastCostFrom 29 = .ok (.iload 6, 2) := fqoB_21 rfl (by decide +kernel)
theorem dX1_leastCostFrom_31 : decode cX1_leastCostFrom 31 = .ok (.iload 5, 2) := fqoB_21 rfl (by decide +kernel)
theorem dX1_leastCostFrom_33 : decode cX1_leastCostFrom 33 = .ok (.if_icmp .gt 74, 3) := fqoE_163 rfl (by decide +kernel)
theorem dX1_leastCostFrom_36 : decode cX1_leastCostFrom 36 = .ok (.aload_n 0, 1) := fqoA_42 rfl (by decide +kernel)
theorem dX1_leastCostFrom_37 : decode cX1_leastCostFrom 37 = .ok (.getfield 28, 3) := fqoD_180 rfl (by decide +kernel)
theorem dX1_leastCostFrom_40 : decode cX1_leastCostFrom 40 = .ok (.iload_n 1, 1) := fqoA_27 rfl (by decide +kernel)
theorem dX1_leastCostFrom_41 : decode cX1_leastCostFrom 41 = .ok (.iconst 1, 1) := fqoA_4 rfl (by decide +kernel)
theorem dX1_leastCostFrom_42 : decode cX1_leastCostFrom 42 = .ok (.iadd, 1) := fqoA_96 rfl (by decide +kernel)
theorem dX1_leastCostFrom_43 : decode cX1_leastCostFrom 43 = .ok (.bipush 121, 2) := fqoC_16 rfl (by decide +kernel)
theorem dX1_leastCostFrom_45 : decode cX1_leastCostFrom 45 = .ok (.imul, 1) := fqoA_104 rfl (by decide +kernel)
theorem dX1_leastCostFrom_46 : decode cX1_leastCostFrom 46 = .ok (.iload_n 2, 1) := fqoA_28 rfl (by decide +kernel)
theorem dX1_leastCostFrom_47 : decode cX1_leastCostFrom 47 = .ok (.iadd, 1) := fqoA_96 rfl (by decide +kernel)
theorem dX1_leastCostFrom_48 : decode cX1_leastCostFrom 48 = .ok (.iload 6, 2) := fqoB_21 rfl (by decide +kernel)
theorem dX1_leastCostFrom_50 : decode cX1_leastCostFrom 50 = .ok (.isub, 1) := fqoA_100 rfl (by decide +kernel)
theorem dX1_leastCostFrom_51 : decode cX1_leastCostFrom 51 = .ok (.iaload, 1) := fqoA_46 rfl (by decide +kernel)
theorem dX1_leastCostFrom_52 : decode cX1_leastCostFrom 52 = .ok (.istore 7, 2) := fqoB_54 rfl (by decide +kernel)
theorem dX1_leastCostFrom_54 : decode cX1_leastCostFrom 54 = .ok (.iload 7, 2) := fqoB_21 rfl (by decide +kernel)
theorem dX1_leastCostFrom_56 : decode cX1_leastCostFrom 56 = .ok (.ldc 43, 2) := fqoB_18 rfl (by decide +kernel)
theorem dX1_leastCostFrom_58 : decode cX1_leastCostFrom 58 = .ok (.if_icmp .ge 40, 3) := fqoE_162 rfl (by decide +kernel)
theorem dX1_leastCostFrom_61 : decode cX1_leastCostFrom 61 = .ok (.aload_n 0, 1) := fqoA_42 rfl (by decide +kernel)
theorem dX1_leastCostFrom_62 : decode cX1_leastCostFrom 62 = .ok (.getfield 25, 3) := fqoD_180 rfl (by decide +kernel)
theorem dX1_leastCostFrom_65 : decode cX1_leastCostFrom 65 = .ok (.iload_n 1, 1) := fqoA_27 rfl (by decide +kernel)
theorem dX1_leastCostFrom_66 : decode cX1_leastCostFrom 66 = .ok (.bipush 121, 2) := fqoC_16 rfl (by decide +kernel)
theorem dX1_leastCostFrom_68 : decode cX1_leastCostFrom 68 = .ok (.imul, 1) := fqoA_104 rfl (by decide +kernel)
theorem dX1_leastCostFrom_69 : decode cX1_leastCostFrom 69 = .ok (.iload 6, 2) := fqoB_21 rfl (by decide +kernel)
theorem dX1_leastCostFrom_71 : decode cX1_leastCostFrom 71 = .ok (.iadd, 1) := fqoA_96 rfl (by decide +kernel)
theorem dX1_leastCostFrom_72 : decode cX1_leastCostFrom 72 = .ok (.iaload, 1) := fqoA_46 rfl (by decide +kernel)
theorem dX1_leastCostFrom_73 : decode cX1_leastCostFrom 73 = .ok (.iload 7, 2) := fqoB_21 rfl (by decide +kernel)
theorem dX1_leastCostFrom_75 : decode cX1_leastCostFrom 75 = .ok (.iadd, 1) := fqoA_96 rfl (by decide +kernel)
theorem dX1_leastCostFrom_76 : decode cX1_leastCostFrom 76 = .ok (.iload 4, 2) := fqoB_21 rfl (by decide +kernel)
theorem dX1_leastCostFrom_78 : decode cX1_leastCostFrom 78 = .ok (.if_icmp .ge 20, 3) := fqoE_162 rfl (by decide +kernel)
theorem dX1_leastCostFrom_81 : decode cX1_leastCostFrom 81 = .ok (.aload_n 0, 1) := fqoA_42 rfl (by decide +kernel)
theorem dX1_leastCostFrom_82 : decode cX1_leastCostFrom 82 = .ok (.getfield 25, 3) := fqoD_180 rfl (by decide +kernel)
theorem dX1_leastCostFrom_85 : decode cX1_leastCostFrom 85 = .ok (.iload_n 1, 1) := fqoA_27 rfl (by decide +kernel)
theorem dX1_leastCostFrom_86 : decode cX1_leastCostFrom 86 = .ok (.bipush 121, 2) := fqoC_16 rfl (by decide +kernel)
theorem dX1_leastCostFrom_88 : decode cX1_leastCostFrom 88 = .ok (.imul, 1) := fqoA_104 rfl (by decide +kernel)
theorem dX1_leastCostFrom_89 : decode cX1_leastCostFrom 89 = .ok (.iload 6, 2) := fqoB_21 rfl (by decide +kernel)
theorem dX1_leastCostFrom_91 : decode cX1_leastCostFrom 91 = .ok (.iadd, 1) := fqoA_96 rfl (by decide +kernel)
theorem dX1_leastCostFrom_92 : decode cX1_leastCostFrom 92 = .ok (.iaload, 1) := fqoA_46 rfl (by decide +kernel)
theorem dX1_leastCostFrom_93 : decode cX1_leastCostFrom 93 = .ok (.iload 7, 2) := fqoB_21 rfl (by decide +kernel)
theorem dX1_leastCostFrom_95 : decode cX1_leastCostFrom 95 = .ok (.iadd, 1) := fqoA_96 rfl (by decide +kernel)
theorem dX1_leastCostFrom_96 : decode cX1_leastCostFrom 96 = .ok (.istore 4, 2) := fqoB_54 rfl (by decide +kernel)
theorem dX1_leastCostFrom_98 : decode cX1_leastCostFrom 98 = .ok (.iload 6, 2) := fqoB_21 rfl (by decide +kernel)
theorem dX1_leastCostFrom_100 : decode cX1_leastCostFrom 100 = .ok (.iload_n 3, 1) := fqoA_29 rfl (by decide +kernel)
theorem dX1_leastCostFrom_101 : decode cX1_leastCostFrom 101 = .ok (.iadd, 1) := fqoA_96 rfl (by decide +kernel)
theorem dX1_leastCostFrom_102 : decode cX1_leastCostFrom 102 = .ok (.istore 6, 2) := fqoB_54 rfl (by decide +kernel)
theorem dX1_leastCostFrom_104 : decode cX1_leastCostFrom 104 = .ok (.goto (-75), 3) := fqoE_167 rfl (by decide +kernel)
theorem dX1_leastCostFrom_107 : decode cX1_leastCostFrom 107 = .ok (.iload 4, 2) := fqoB_21 rfl (by decide +kernel)
theorem dX1_leastCostFrom_109 : decode cX1_leastCostFrom 109 = .ok (.ireturn, 1) := fqoA_172 rfl (by decide +kernel)
theorem dX1_mostUnits_0 : decode cX1_mostUnits 0 = .ok (.iload_n 1, 1) := fqoA_27 rfl (by decide +kernel)
theorem dX1_mostUnits_1 : decode cX1_mostUnits 1 = .ok (.istore_n 2, 1) := fqoA_61 rfl (by decide +kernel)
theorem dX1_mostUnits_2 : decode cX1_mostUnits 2 = .ok (.iload_n 2, 1) := fqoA_28 rfl (by decide +kernel)
theorem dX1_mostUnits_3 : decode cX1_mostUnits 3 = .ok (.ifCond .le 19, 3) := fqoE_158 rfl (by decide +kernel)
theorem dX1_mostUnits_6 : decode cX1_mostUnits 6 = .ok (.aload_n 0, 1) := fqoA_42 rfl (by decide +kernel)
theorem dX1_mostUnits_7 : decode cX1_mostUnits 7 = .ok (.iload_n 2, 1) := fqoA_28 rfl (by decide +kernel)
theorem dX1_mostUnits_8 : decode cX1_mostUnits 8 = .ok (.iaload, 1) := fqoA_46 rfl (by decide +kernel)
theorem dX1_mostUnits_9 : decode cX1_mostUnits 9 = .ok (.ldc 43, 2) := fqoB_18 rfl (by decide +kernel)
theorem dX1_mostUnits_11 : decode cX1_mostUnits 11 = .ok (.if_icmp .ge 5, 3) := fqoE_162 rfl (by decide +kernel)
theorem dX1_mostUnits_14 : decode cX1_mostUnits 14 = .ok (.iload_n 2, 1) := fqoA_28 rfl (by decide +kernel)
theorem dX1_mostUnits_15 : decode cX1_mostUnits 15 = .ok (.ireturn, 1) := fqoA_172 rfl (by decide +kernel)
theorem dX1_mostUnits_16 : decode cX1_mostUnits 16 = .ok (.iinc 2 (-1), 3) := fqoF_132 rfl (by decide +kernel)
theorem dX1_mostUnits_19 : decode cX1_mostUnits 19 = .ok (.goto (-17), 3) := fqoE_167 rfl (by decide +kernel)
theorem dX1_mostUnits_22 : decode cX1_mostUnits 22 = .ok (.iconst 0, 1) := fqoA_3 rfl (by decide +kernel)
theorem dX1_mostUnits_23 : decode cX1_mostUnits 23 = .ok (.ireturn, 1) := fqoA_172 rfl (by decide +kernel)
theorem dX1_deal_0 : decode cX1_deal 0 = .ok (.aload_n 0, 1) := fqoA_42 rfl (by decide +kernel)
theorem dX1_deal_1 : decode cX1_deal 1 = .ok (.getfield 9, 3) := fqoD_180 rfl (by decide +kernel)
theorem dX1_deal_4 : decode cX1_deal 4 = .ok (.istore_n 2, 1) := fqoA_61 rfl (by decide +kernel)
theorem dX1_deal_5 : decode cX1_deal 5 = .ok (.iconst 0, 1) := fqoA_3 rfl (by decide +kernel)
theorem dX1_deal_6 : decode cX1_deal 6 = .ok (.istore_n 3, 1) := fqoA_62 rfl (by decide +kernel)
theorem dX1_deal_7 : decode cX1_deal 7 = .ok (.iload_n 3, 1) := fqoA_29 rfl (by decide +kernel)
theorem dX1_deal_8 : decode cX1_deal 8 = .ok (.aload_n 1, 1) := fqoA_43 rfl (by decide +kernel)
theorem dX1_deal_9 : decode cX1_deal 9 = .ok (.getfield 38, 3) := fqoD_180 rfl (by decide +kernel)
theorem dX1_deal_12 : decode cX1_deal 12 = .ok (.if_icmp .ge 35, 3) := fqoE_162 rfl (by decide +kernel)
theorem dX1_deal_15 : decode cX1_deal 15 = .ok (.aload_n 0, 1) := fqoA_42 rfl (by decide +kernel)
theorem dX1_deal_16 : decode cX1_deal 16 = .ok (.getfield 18, 3) := fqoD_180 rfl (by decide +kernel)
theorem dX1_deal_19 : decode cX1_deal 19 = .ok (.iload_n 3, 1) := fqoA_29 rfl (by decide +kernel)
theorem dX1_deal_20 : decode cX1_deal 20 = .ok (.aload_n 0, 1) := fqoA_42 rfl (by decide +kernel)
theorem dX1_deal_21 : decode cX1_deal 21 = .ok (.iload_n 3, 1) := fqoA_29 rfl (by decide +kernel)
theorem dX1_deal_22 : decode cX1_deal 22 = .ok (.iload_n 2, 1) := fqoA_28 rfl (by decide +kernel)
theorem dX1_deal_23 : decode cX1_deal 23 = .ok (.aload_n 1, 1) := fqoA_43 rfl (by decide +kernel)
theorem dX1_deal_24 : decode cX1_deal 24 = .ok (.iload_n 3, 1) := fqoA_29 rfl (by decide +kernel)
theorem dX1_deal_25 : decode cX1_deal 25 = .ok (.invokevirtual 44, 3) := fqoD_182 rfl (by decide +kernel)
theorem dX1_deal_28 : decode cX1_deal 28 = .ok (.invokevirtual 67, 3) := fqoD_182 rfl (by decide +kernel)
theorem dX1_deal_31 : decode cX1_deal 31 = .ok (.iastore, 1) := fqoA_79 rfl (by decide +kernel)
theorem dX1_deal_32 : decode cX1_deal 32 = .ok (.iload_n 2, 1) := fqoA_28 rfl (by decide +kernel)
theorem dX1_deal_33 : decode cX1_deal 33 = .ok (.aload_n 0, 1) := fqoA_42 rfl (by decide +kernel)
theorem dX1_deal_34 : decode cX1_deal 34 = .ok (.getfield 18, 3) := fqoD_180 rfl (by decide +kernel)
theorem dX1_deal_37 : decode cX1_deal 37 = .ok (.iload_n 3, 1) := fqoA_29 rfl (by decide +kernel)
theorem dX1_deal_38 : decode cX1_deal 38 = .ok (.iaload, 1) := fqoA_46 rfl (by decide +kernel)
theorem dX1_deal_39 : decode cX1_deal 39 = .ok (.isub, 1) := fqoA_100 rfl (by decide +kernel)
theorem dX1_deal_40 : decode cX1_deal 40 = .ok (.istore_n 2, 1) := fqoA_61 rfl (by decide +kernel)
theorem dX1_deal_41 : decode cX1_deal 41 = .ok (.iinc 3 1, 3) := fqoF_132 rfl (by decide +kernel)
theorem dX1_deal_44 : decode cX1_deal 44 = .ok (.goto (-37), 3) := fqoE_167 rfl (by decide +kernel)
theorem dX1_deal_47 : decode cX1_deal 47 = .ok (.return_, 1) := fqoA_177 rfl (by decide +kernel)
theorem dX1_mostAtLeastCost_0 : decode cX1_mostAtLeastCost 0 = .ok (.iconst 0, 1) := fqoA_3 rfl (by decide +kernel)
theorem dX1_mostAtLeastCost_1 : decode cX1_mostAtLeastCost 1 = .ok (.istore 4, 2) := fqoB_54 rfl (by decide +kernel)
theorem dX1_mostAtLeastCost_3 : decode cX1_mostAtLeastCost 3 = .ok (.aload_n 0, 1) := fqoA_42 rfl (by decide +kernel)
theorem dX1_mostAtLeastCost_4 : decode cX1_mostAtLeastCost 4 = .ok (.getfield 22, 3) := fqoD_180 rfl (by decide +kernel)
theorem dX1_mostAtLeastCost_7 : decode cX1_mostAtLeastCost 7 = .ok (.iload_n 1, 1) := fqoA_27 rfl (by decide +kernel)
theorem dX1_mostAtLeastCost_8 : decode cX1_mostAtLeastCost 8 = .ok (.iaload, 1) := fqoA_46 rfl (by decide +kernel)
theorem dX1_mostAtLeastCost_9 : decode cX1_mostAtLeastCost 9 = .ok (.iload_n 2, 1) := fqoA_28 rfl (by decide +kernel)
theorem dX1_mostAtLeastCost_10 : decode cX1_mostAtLeastCost 10 = .ok (.if_icmp .ge 12, 3) := fqoE_162 rfl (by decide +kernel)
theorem dX1_mostAtLeastCost_13 : decode cX1_mostAtLeastCost 13 = .ok (.aload_n 0, 1) := fqoA_42 rfl (by decide +kernel)
theorem dX1_mostAtLeastCost_14 : decode cX1_mostAtLeastCost 14 = .ok (.getfield 22, 3) := fqoD_180 rfl (by decide +kernel)
theorem dX1_mostAtLeastCost_17 : decode cX1_mostAtLeastCost 17 = .ok (.iload_n 1, 1) := fqoA_27 rfl (by decide +kernel)
theorem dX1_mostAtLeastCost_18 : decode cX1_mostAtLeastCost 18 = .ok (.iaload, 1) := fqoA_46 rfl (by decide +kernel)
theorem dX1_mostAtLeastCost_19 : decode cX1_mostAtLeastCost 19 = .ok (.goto 4, 3) := fqoE_167 rfl (by decide +kernel)
theorem dX1_mostAtLeastCost_22 : decode cX1_mostAtLeastCost 22 = .ok (.iload_n 2, 1) := fqoA_28 rfl (by decide +kernel)
theorem dX1_mostAtLeastCost_23 : decode cX1_mostAtLeastCost 23 = .ok (.istore 5, 2) := fqoB_54 rfl (by decide +kernel)
theorem dX1_mostAtLeastCost_25 : decode cX1_mostAtLeastCost 25 = .ok (.iconst 0, 1) := fqoA_3 rfl (by decide +kernel)
theorem dX1_mostAtLeastCost_26 : decode cX1_mostAtLeastCost 26 = .ok (.istore 6, 2) := fqoB_54 rfl (by decide +kernel)
theorem dX1_mostAtLeastCost_28 : decode cX1_mostAtLeastCost 28 = .ok (.iload 6, 2) := fqoB_21 rfl (by decide +kernel)
theorem dX1_mostAtLeastCost_30 : decode cX1_mostAtLeastCost 30 = .ok (.iload 5, 2) := fqoB_21 rfl (by decide +kernel)
theorem dX1_mostAtLeastCost_32 : decode cX1_mostAtLeastCost 32 = .ok (.if_icmp .gt 70, 3) := fqoE_163 rfl (by decide +kernel)
theorem dX1_mostAtLeastCost_35 : decode cX1_mostAtLeastCost 35 = .ok (.aload_n 0, 1) := fqoA_42 rfl (by decide +kernel)
theorem dX1_mostAtLeastCost_36 : decode cX1_mostAtLeastCost 36 = .ok (.getfield 28, 3) := fqoD_180 rfl (by decide +kernel)
theorem dX1_mostAtLeastCost_39 : decode cX1_mostAtLeastCost 39 = .ok (.iload_n 1, 1) := fqoA_27 rfl (by decide +kernel)
theorem dX1_mostAtLeastCost_40 : decode cX1_mostAtLeastCost 40 = .ok (.iconst 1, 1) := fqoA_4 rfl (by decide +kernel)
theorem dX1_mostAtLeastCost_41 : decode cX1_mostAtLeastCost 41 = .ok (.iadd, 1) := fqoA_96 rfl (by decide +kernel)
theorem dX1_mostAtLeastCost_42 : decode cX1_mostAtLeastCost 42 = .ok (.bipush 121, 2) := fqoC_16 rfl (by decide +kernel)
theorem dX1_mostAtLeastCost_44 : decode cX1_mostAtLeastCost 44 = .ok (.imul, 1) := fqoA_104 rfl (by decide +kernel)
theorem dX1_mostAtLeastCost_45 : decode cX1_mostAtLeastCost 45 = .ok (.iload_n 2, 1) := fqoA_28 rfl (by decide +kernel)
theorem dX1_mostAtLeastCost_46 : decode cX1_mostAtLeastCost 46 = .ok (.iadd, 1) := fqoA_96 rfl (by decide +kernel)
theorem dX1_mostAtLeastCost_47 : decode cX1_mostAtLeastCost 47 = .ok (.iload 6, 2) := fqoB_21 rfl (by decide +kernel)
theorem dX1_mostAtLeastCost_49 : decode cX1_mostAtLeastCost 49 = .ok (.isub, 1) := fqoA_100 rfl (by decide +kernel)
theorem dX1_mostAtLeastCost_50 : decode cX1_mostAtLeastCost 50 = .ok (.iaload, 1) := fqoA_46 rfl (by decide +kernel)
theorem dX1_mostAtLeastCost_51 : decode cX1_mostAtLeastCost 51 = .ok (.istore 7, 2) := fqoB_54 rfl (by decide +kernel)
theorem dX1_mostAtLeastCost_53 : decode cX1_mostAtLeastCost 53 = .ok (.iload 7, 2) := fqoB_21 rfl (by decide +kernel)
theorem dX1_mostAtLeastCost_55 : decode cX1_mostAtLeastCost 55 = .ok (.ldc 43, 2) := fqoB_18 rfl (by decide +kernel)
theorem dX1_mostAtLeastCost_57 : decode cX1_mostAtLeastCost 57 = .ok (.if_icmp .ge 36, 3) := fqoE_162 rfl (by decide +kernel)
theorem dX1_mostAtLeastCost_60 : decode cX1_mostAtLeastCost 60 = .ok (.aload_n 0, 1) := fqoA_42 rfl (by decide +kernel)
theorem dX1_mostAtLeastCost_61 : decode cX1_mostAtLeastCost 61 = .ok (.getfield 25, 3) := fqoD_180 rfl (by decide +kernel)
theorem dX1_mostAtLeastCost_64 : decode cX1_mostAtLeastCost 64 = .ok (.iload_n 1, 1) := fqoA_27 rfl (by decide +kernel)
theorem dX1_mostAtLeastCost_65 : decode cX1_mostAtLeastCost 65 = .ok (.bipush 121, 2) := fqoC_16 rfl (by decide +kernel)
theorem dX1_mostAtLeastCost_67 : decode cX1_mostAtLeastCost 67 = .ok (.imul, 1) := fqoA_104 rfl (by decide +kernel)
theorem dX1_mostAtLeastCost_68 : decode cX1_mostAtLeastCost 68 = .ok (.iload 6, 2) := fqoB_21 rfl (by decide +kernel)
theorem dX1_mostAtLeastCost_70 : decode cX1_mostAtLeastCost 70 = .ok (.iadd, 1) := fqoA_96 rfl (by decide +kernel)
theorem dX1_mostAtLeastCost_71 : decode cX1_mostAtLeastCost 71 = .ok (.iaload, 1) := fqoA_46 rfl (by decide +kernel)
theorem dX1_mostAtLeastCost_72 : decode cX1_mostAtLeastCost 72 = .ok (.iload 7, 2) := fqoB_21 rfl (by decide +kernel)
theorem dX1_mostAtLeastCost_74 : decode cX1_mostAtLeastCost 74 = .ok (.iadd, 1) := fqoA_96 rfl (by decide +kernel)
theorem dX1_mostAtLeastCost_75 : decode cX1_mostAtLeastCost 75 = .ok (.aload_n 0, 1) := fqoA_42 rfl (by decide +kernel)
theorem dX1_mostAtLeastCost_76 : decode cX1_mostAtLeastCost 76 = .ok (.getfield 28, 3) := fqoD_180 rfl (by decide +kernel)
theorem dX1_mostAtLeastCost_79 : decode cX1_mostAtLeastCost 79 = .ok (.iload_n 1, 1) := fqoA_27 rfl (by decide +kernel)
theorem dX1_mostAtLeastCost_80 : decode cX1_mostAtLeastCost 80 = .ok (.bipush 121, 2) := fqoC_16 rfl (by decide +kernel)
theorem dX1_mostAtLeastCost_82 : decode cX1_mostAtLeastCost 82 = .ok (.imul, 1) := fqoA_104 rfl (by decide +kernel)
theorem dX1_mostAtLeastCost_83 : decode cX1_mostAtLeastCost 83 = .ok (.iload_n 2, 1) := fqoA_28 rfl (by decide +kernel)
theorem dX1_mostAtLeastCost_84 : decode cX1_mostAtLeastCost 84 = .ok (.iadd, 1) := fqoA_96 rfl (by decide +kernel)
theorem dX1_mostAtLeastCost_85 : decode cX1_mostAtLeastCost 85 = .ok (.iaload, 1) := fqoA_46 rfl (by decide +kernel)
theorem dX1_mostAtLeastCost_86 : decode cX1_mostAtLeastCost 86 = .ok (.if_icmp .ne 7, 3) := fqoE_160 rfl (by decide +kernel)
theorem dX1_mostAtLeastCost_89 : decode cX1_mostAtLeastCost 89 = .ok (.iload 6, 2) := fqoB_21 rfl (by decide +kernel)
theorem dX1_mostAtLeastCost_91 : decode cX1_mostAtLeastCost 91 = .ok (.istore 4, 2) := fqoB_54 rfl (by decide +kernel)
theorem dX1_mostAtLeastCost_93 : decode cX1_mostAtLeastCost 93 = .ok (.iload 6, 2) := fqoB_21 rfl (by decide +kernel)
theorem dX1_mostAtLeastCost_95 : decode cX1_mostAtLeastCost 95 = .ok (.iload_n 3, 1) := fqoA_29 rfl (by decide +kernel)
theorem dX1_mostAtLeastCost_96 : decode cX1_mostAtLeastCost 96 = .ok (.iadd, 1) := fqoA_96 rfl (by decide +kernel)
theorem dX1_mostAtLeastCost_97 : decode cX1_mostAtLeastCost 97 = .ok (.istore 6, 2) := fqoB_54 rfl (by decide +kernel)
theorem dX1_mostAtLeastCost_99 : decode cX1_mostAtLeastCost 99 = .ok (.goto (-71), 3) := fqoE_167 rfl (by decide +kernel)
theorem dX1_mostAtLeastCost_102 : decode cX1_mostAtLeastCost 102 = .ok (.iload 4, 2) := fqoB_21 rfl (by decide +kernel)
theorem dX1_mostAtLeastCost_104 : decode cX1_mostAtLeastCost 104 = .ok (.ireturn, 1) := fqoA_172 rfl (by decide +kernel)
theorem dX1_chooseGreedily_0 : decode cX1_chooseGreedily 0 = .ok (.aload_n 0, 1) := fqoA_42 rfl (by decide +kernel)
theorem dX1_chooseGreedily_1 : decode cX1_chooseGreedily 1 = .ok (.aload_n 1, 1) := fqoA_43 rfl (by decide +kernel)
theorem dX1_chooseGreedily_2 : decode cX1_chooseGreedily 2 = .ok (.iload_n 2, 1) := fqoA_28 rfl (by decide +kernel)
theorem dX1_chooseGreedily_3 : decode cX1_chooseGreedily 3 = .ok (.iconst (-1), 1) := fqoA_2 rfl (by decide +kernel)
theorem dX1_chooseGreedily_4 : decode cX1_chooseGreedily 4 = .ok (.invokevirtual 34, 3) := fqoD_182 rfl (by decide +kernel)
theorem dX1_chooseGreedily_7 : decode cX1_chooseGreedily 7 = .ok (.pop, 1) := fqoA_87 rfl (by decide +kernel)
theorem dX1_chooseGreedily_8 : decode cX1_chooseGreedily 8 = .ok (.aload_n 0, 1) := fqoA_42 rfl (by decide +kernel)
theorem dX1_chooseGreedily_9 : decode cX1_chooseGreedily 9 = .ok (.iconst 0, 1) := fqoA_3 rfl (by decide +kernel)
theorem dX1_chooseGreedily_10 : decode cX1_chooseGreedily 10 = .ok (.putfield 9, 3) := fqoD_181 rfl (by decide +kernel)
theorem dX1_chooseGreedily_13 : decode cX1_chooseGreedily 13 = .ok (.aload_n 0, 1) := fqoA_42 rfl (by decide +kernel)
theorem dX1_chooseGreedily_14 : decode cX1_chooseGreedily 14 = .ok (.iconst 0, 1) := fqoA_3 rfl (by decide +kernel)
theorem dX1_chooseGreedily_15 : decode cX1_chooseGreedily 15 = .ok (.putfield 15, 3) := fqoD_181 rfl (by decide +kernel)
theorem dX1_chooseGreedily_18 : decode cX1_chooseGreedily 18 = .ok (.iconst 0, 1) := fqoA_3 rfl (by decide +kernel)
theorem dX1_chooseGreedily_19 : decode cX1_chooseGreedily 19 = .ok (.istore_n 3, 1) := fqoA_62 rfl (by decide +kernel)
theorem dX1_chooseGreedily_20 : decode cX1_chooseGreedily 20 = .ok (.iload_n 3, 1) := fqoA_29 rfl (by decide +kernel)
theorem dX1_chooseGreedily_21 : decode cX1_chooseGreedily 21 = .ok (.aload_n 1, 1) := fqoA_43 rfl (by decide +kernel)
theorem dX1_chooseGreedily_22 : decode cX1_chooseGreedily 22 = .ok (.getfield 38, 3) := fqoD_180 rfl (by decide +kernel)
theorem dX1_chooseGreedily_25 : decode cX1_chooseGreedily 25 = .ok (.if_icmp .ge 16, 3) := fqoE_162 rfl (by decide +kernel)
theorem dX1_chooseGreedily_28 : decode cX1_chooseGreedily 28 = .ok (.aload_n 0, 1) := fqoA_42 rfl (by decide +kernel)
theorem dX1_chooseGreedily_29 : decode cX1_chooseGreedily 29 = .ok (.getfield 18, 3) := fqoD_180 rfl (by decide +kernel)
theorem dX1_chooseGreedily_32 : decode cX1_chooseGreedily 32 = .ok (.iload_n 3, 1) := fqoA_29 rfl (by decide +kernel)
theorem dX1_chooseGreedily_33 : decode cX1_chooseGreedily 33 = .ok (.iconst 0, 1) := fqoA_3 rfl (by decide +kernel)
theorem dX1_chooseGreedily_34 : decode cX1_chooseGreedily 34 = .ok (.iastore, 1) := fqoA_79 rfl (by decide +kernel)
theorem dX1_chooseGreedily_35 : decode cX1_chooseGreedily 35 = .ok (.iinc 3 1, 3) := fqoF_132 rfl (by decide +kernel)
theorem dX1_chooseGreedily_38 : decode cX1_chooseGreedily 38 = .ok (.goto (-18), 3) := fqoE_167 rfl (by decide +kernel)
theorem dX1_chooseGreedily_41 : decode cX1_chooseGreedily 41 = .ok (.iconst 0, 1) := fqoA_3 rfl (by decide +kernel)
theorem dX1_chooseGreedily_42 : decode cX1_chooseGreedily 42 = .ok (.istore_n 3, 1) := fqoA_62 rfl (by decide +kernel)
theorem dX1_chooseGreedily_43 : decode cX1_chooseGreedily 43 = .ok (.iload_n 3, 1) := fqoA_29 rfl (by decide +kernel)
theorem dX1_chooseGreedily_44 : decode cX1_chooseGreedily 44 = .ok (.bipush 120, 2) := fqoC_16 rfl (by decide +kernel)
theorem dX1_chooseGreedily_46 : decode cX1_chooseGreedily 46 = .ok (.if_icmp .ge 81, 3) := fqoE_162 rfl (by decide +kernel)
theorem dX1_chooseGreedily_49 : decode cX1_chooseGreedily 49 = .ok (.aload_n 0, 1) := fqoA_42 rfl (by decide +kernel)
theorem dX1_chooseGreedily_50 : decode cX1_chooseGreedily 50 = .ok (.aload_n 1, 1) := fqoA_43 rfl (by decide +kernel)
theorem dX1_chooseGreedily_51 : decode cX1_chooseGreedily 51 = .ok (.iload_n 2, 1) := fqoA_28 rfl (by decide +kernel)
theorem dX1_chooseGreedily_52 : decode cX1_chooseGreedily 52 = .ok (.aload_n 0, 1) := fqoA_42 rfl (by decide +kernel)
theorem dX1_chooseGreedily_53 : decode cX1_chooseGreedily 53 = .ok (.getfield 9, 3) := fqoD_180 rfl (by decide +kernel)
theorem dX1_chooseGreedily_56 : decode cX1_chooseGreedily 56 = .ok (.isub, 1) := fqoA_100 rfl (by decide +kernel)
theorem dX1_chooseGreedily_57 : decode cX1_chooseGreedily 57 = .ok (.invokevirtual 70, 3) := fqoD_182 rfl (by decide +kernel)
theorem dX1_chooseGreedily_60 : decode cX1_chooseGreedily 60 = .ok (.istore 4, 2) := fqoB_54 rfl (by decide +kernel)
theorem dX1_chooseGreedily_62 : decode cX1_chooseGreedily 62 = .ok (.iload 4, 2) := fqoB_21 rfl (by decide +kernel)
theorem dX1_chooseGreedily_64 : decode cX1_chooseGreedily 64 = .ok (.iconst (-1), 1) := fqoA_2 rfl (by decide +kernel)
theorem dX1_chooseGreedily_65 : decode cX1_chooseGreedily 65 = .ok (.if_icmp .ne 4, 3) := fqoE_160 rfl (by decide +kernel)
theorem dX1_chooseGreedily_68 : decode cX1_chooseGreedily 68 = .ok (.return_, 1) := fqoA_177 rfl (by decide +kernel)
theorem dX1_chooseGreedily_69 : decode cX1_chooseGreedily 69 = .ok (.aload_n 0, 1) := fqoA_42 rfl (by decide +kernel)
theorem dX1_chooseGreedily_70 : decode cX1_chooseGreedily 70 = .ok (.dup, 1) := fqoA_89 rfl (by decide +kernel)
theorem dX1_chooseGreedily_71 : decode cX1_chooseGreedily 71 = .ok (.getfield 15, 3) := fqoD_180 rfl (by decide +kernel)
theorem dX1_chooseGreedily_74 : decode cX1_chooseGreedily 74 = .ok (.aload_n 0, 1) := fqoA_42 rfl (by decide +kernel)
theorem dX1_chooseGreedily_75 : decode cX1_chooseGreedily 75 = .ok (.iload 4, 2) := fqoB_21 rfl (by decide +kernel)
theorem dX1_chooseGreedily_77 : decode cX1_chooseGreedily 77 = .ok (.aload_n 1, 1) := fqoA_43 rfl (by decide +kernel)
theorem dX1_chooseGreedily_78 : decode cX1_chooseGreedily 78 = .ok (.iload 4, 2) := fqoB_21 rfl (by decide +kernel)
theorem dX1_chooseGreedily_80 : decode cX1_chooseGreedily 80 = .ok (.invokevirtual 44, 3) := fqoD_182 rfl (by decide +kernel)
theorem dX1_chooseGreedily_83 : decode cX1_chooseGreedily 83 = .ok (.invokevirtual 74, 3) := fqoD_182 rfl (by decide +kernel)
theorem dX1_chooseGreedily_86 : decode cX1_chooseGreedily 86 = .ok (.iadd, 1) := fqoA_96 rfl (by decide +kernel)
theorem dX1_chooseGreedily_87 : decode cX1_chooseGreedily 87 = .ok (.putfield 15, 3) := fqoD_181 rfl (by decide +kernel)
theorem dX1_chooseGreedily_90 : decode cX1_chooseGreedily 90 = .ok (.aload_n 0, 1) := fqoA_42 rfl (by decide +kernel)
theorem dX1_chooseGreedily_91 : decode cX1_chooseGreedily 91 = .ok (.dup, 1) := fqoA_89 rfl (by decide +kernel)
theorem dX1_chooseGreedily_92 : decode cX1_chooseGreedily 92 = .ok (.getfield 9, 3) := fqoD_180 rfl (by decide +kernel)
theorem dX1_chooseGreedily_95 : decode cX1_chooseGreedily 95 = .ok (.aload_n 1, 1) := fqoA_43 rfl (by decide +kernel)
theorem dX1_chooseGreedily_96 : decode cX1_chooseGreedily 96 = .ok (.iload 4, 2) := fqoB_21 rfl (by decide +kernel)
theorem dX1_chooseGreedily_98 : decode cX1_chooseGreedily 98 = .ok (.invokevirtual 44, 3) := fqoD_182 rfl (by decide +kernel)
theorem dX1_chooseGreedily_101 : decode cX1_chooseGreedily 101 = .ok (.iadd, 1) := fqoA_96 rfl (by decide +kernel)
theorem dX1_chooseGreedily_102 : decode cX1_chooseGreedily 102 = .ok (.putfield 9, 3) := fqoD_181 rfl (by decide +kernel)
theorem dX1_chooseGreedily_105 : decode cX1_chooseGreedily 105 = .ok (.aload_n 0, 1) := fqoA_42 rfl (by decide +kernel)
theorem dX1_chooseGreedily_106 : decode cX1_chooseGreedily 106 = .ok (.getfield 18, 3) := fqoD_180 rfl (by decide +kernel)
theorem dX1_chooseGreedily_109 : decode cX1_chooseGreedily 109 = .ok (.iload 4, 2) := fqoB_21 rfl (by decide +kernel)
theorem dX1_chooseGreedily_111 : decode cX1_chooseGreedily 111 = .ok (.dup2, 1) := fqoA_92 rfl (by decide +kernel)
theorem dX1_chooseGreedily_112 : decode cX1_chooseGreedily 112 = .ok (.iaload, 1) := fqoA_46 rfl (by decide +kernel)
theorem dX1_chooseGreedily_113 : decode cX1_chooseGreedily 113 = .ok (.aload_n 1, 1) := fqoA_43 rfl (by decide +kernel)
theorem dX1_chooseGreedily_114 : decode cX1_chooseGreedily 114 = .ok (.iload 4, 2) := fqoB_21 rfl (by decide +kernel)
theorem dX1_chooseGreedily_116 : decode cX1_chooseGreedily 116 = .ok (.invokevirtual 44, 3) := fqoD_182 rfl (by decide +kernel)
theorem dX1_chooseGreedily_119 : decode cX1_chooseGreedily 119 = .ok (.iadd, 1) := fqoA_96 rfl (by decide +kernel)
theorem dX1_chooseGreedily_120 : decode cX1_chooseGreedily 120 = .ok (.iastore, 1) := fqoA_79 rfl (by decide +kernel)
theorem dX1_chooseGreedily_121 : decode cX1_chooseGreedily 121 = .ok (.iinc 3 1, 3) := fqoF_132 rfl (by decide +kernel)
theorem dX1_chooseGreedily_124 : decode cX1_chooseGreedily 124 = .ok (.goto (-81), 3) := fqoE_167 rfl (by decide +kernel)
theorem dX1_chooseGreedily_127 : decode cX1_chooseGreedily 127 = .ok (.return_, 1) := fqoA_177 rfl (by decide +kernel)
theorem dX1_cheapestNextLot_0 : decode cX1_cheapestNextLot 0 = .ok (.iconst (-1), 1) := fqoA_2 rfl (by decide +kernel)
theorem dX1_cheapestNextLot_1 : decode cX1_cheapestNextLot 1 = .ok (.istore_n 3, 1) := fqoA_62 rfl (by decide +kernel)
theorem dX1_cheapestNextLot_2 : decode cX1_cheapestNextLot 2 = .ok (.iconst 0, 1) := fqoA_3 rfl (by decide +kernel)
theorem dX1_cheapestNextLot_3 : decode cX1_cheapestNextLot 3 = .ok (.istore 4, 2) := fqoB_54 rfl (by decide +kernel)
theorem dX1_cheapestNextLot_5 : decode cX1_cheapestNextLot 5 = .ok (.iconst 1, 1) := fqoA_4 rfl (by decide +kernel)
theorem dX1_cheapestNextLot_6 : decode cX1_cheapestNextLot 6 = .ok (.istore 5, 2) := fqoB_54 rfl (by decide +kernel)
theorem dX1_cheapestNextLot_8 : decode cX1_cheapestNextLot 8 = .ok (.iconst 0, 1) := fqoA_3 rfl (by decide +kernel)
theorem dX1_cheapestNextLot_9 : decode cX1_cheapestNextLot 9 = .ok (.istore 6, 2) := fqoB_54 rfl (by decide +kernel)
theorem dX1_cheapestNextLot_11 : decode cX1_cheapestNextLot 11 = .ok (.iload 6, 2) := fqoB_21 rfl (by decide +kernel)
theorem dX1_cheapestNextLot_13 : decode cX1_cheapestNextLot 13 = .ok (.aload_n 1, 1) := fqoA_43 rfl (by decide +kernel)
theorem dX1_cheapestNextLot_14 : decode cX1_cheapestNextLot 14 = .ok (.getfield 38, 3) := fqoD_180 rfl (by decide +kernel)
theorem dX1_cheapestNextLot_17 : decode cX1_cheapestNextLot 17 = .ok (.if_icmp .ge 85, 3) := fqoE_162 rfl (by decide +kernel)
theorem dX1_cheapestNextLot_20 : decode cX1_cheapestNextLot 20 = .ok (.aload_n 1, 1) := fqoA_43 rfl (by decide +kernel)
theorem dX1_cheapestNextLot_21 : decode cX1_cheapestNextLot 21 = .ok (.iload 6, 2) := fqoB_21 rfl (by decide +kernel)
theorem dX1_cheapestNextLot_23 : decode cX1_cheapestNextLot 23 = .ok (.invokevirtual 44, 3) := fqoD_182 rfl (by decide +kernel)
theorem dX1_cheapestNextLot_26 : decode cX1_cheapestNextLot 26 = .ok (.istore 7, 2) := fqoB_54 rfl (by decide +kernel)
theorem dX1_cheapestNextLot_28 : decode cX1_cheapestNextLot 28 = .ok (.iload 7, 2) := fqoB_21 rfl (by decide +kernel)
theorem dX1_cheapestNextLot_30 : decode cX1_cheapestNextLot 30 = .ok (.iload_n 2, 1) := fqoA_28 rfl (by decide +kernel)
theorem dX1_cheapestNextLot_31 : decode cX1_cheapestNextLot 31 = .ok (.if_icmp .gt 65, 3) := fqoE_163 rfl (by decide +kernel)
theorem dX1_cheapestNextLot_34 : decode cX1_cheapestNextLot 34 = .ok (.aload_n 0, 1) := fqoA_42 rfl (by decide +kernel)
theorem dX1_cheapestNextLot_35 : decode cX1_cheapestNextLot 35 = .ok (.getfield 18, 3) := fqoD_180 rfl (by decide +kernel)
theorem dX1_cheapestNextLot_38 : decode cX1_cheapestNextLot 38 = .ok (.iload 6, 2) := fqoB_21 rfl (by decide +kernel)
theorem dX1_cheapestNextLot_40 : decode cX1_cheapestNextLot 40 = .ok (.iaload, 1) := fqoA_46 rfl (by decide +kernel)
theorem dX1_cheapestNextLot_41 : decode cX1_cheapestNextLot 41 = .ok (.iload 7, 2) := fqoB_21 rfl (by decide +kernel)
theorem dX1_cheapestNextLot_43 : decode cX1_cheapestNextLot 43 = .ok (.iadd, 1) := fqoA_96 rfl (by decide +kernel)
theorem dX1_cheapestNextLot_44 : decode cX1_cheapestNextLot 44 = .ok (.aload_n 0, 1) := fqoA_42 rfl (by decide +kernel)
theorem dX1_cheapestNextLot_45 : decode cX1_cheapestNextLot 45 = .ok (.getfield 22, 3) := fqoD_180 rfl (by decide +kernel)
theorem dX1_cheapestNextLot_48 : decode cX1_cheapestNextLot 48 = .ok (.iload 6, 2) := fqoB_21 rfl (by decide +kernel)
theorem dX1_cheapestNextLot_50 : decode cX1_cheapestNextLot 50 = .ok (.iaload, 1) := fqoA_46 rfl (by decide +kernel)
theorem dX1_cheapestNextLot_51 : decode cX1_cheapestNextLot 51 = .ok (.if_icmp .le 6, 3) := fqoE_164 rfl (by decide +kernel)
theorem dX1_cheapestNextLot_54 : decode cX1_cheapestNextLot 54 = .ok (.goto 42, 3) := fqoE_167 rfl (by decide +kernel)
theorem dX1_cheapestNextLot_57 : decode cX1_cheapestNextLot 57 = .ok (.aload_n 0, 1) := fqoA_42 rfl (by decide +kernel)
theorem dX1_cheapestNextLot_58 : decode cX1_cheapestNextLot 58 = .ok (.iload 6, 2) := fqoB_21 rfl (by decide +kernel)
theorem dX1_cheapestNextLot_60 : decode cX1_cheapestNextLot 60 = .ok (.iload 7, 2) := fqoB_21 rfl (by decide +kernel)
theorem dX1_cheapestNextLot_62 : decode cX1_cheapestNextLot 62 = .ok (.invokevirtual 74, 3) := fqoD_182 rfl (by decide +kernel)
theorem dX1_cheapestNextLot_65 : decode cX1_cheapestNextLot 65 = .ok (.istore 8, 2) := fqoB_54 rfl (by decide +kernel)
theorem dX1_cheapestNextLot_67 : decode cX1_cheapestNextLot 67 = .ok (.iload_n 3, 1) := fqoA_29 rfl (by decide +kernel)
theorem dX1_cheapestNextLot_68 : decode cX1_cheapestNextLot 68 = .ok (.iconst (-1), 1) := fqoA_2 rfl (by decide +kernel)
theorem dX1_cheapestNextLot_69 : decode cX1_cheapestNextLot 69 = .ok (.if_icmp .eq 16, 3) := fqoE_159 rfl (by decide +kernel)
theorem dX1_cheapestNextLot_72 : decode cX1_cheapestNextLot 72 = .ok (.iload 8, 2) := fqoB_21 rfl (by decide +kernel)
theorem dX1_cheapestNextLot_74 : decode cX1_cheapestNextLot 74 = .ok (.iload 5, 2) := fqoB_21 rfl (by decide +kernel)
theorem dX1_cheapestNextLot_76 : decode cX1_cheapestNextLot 76 = .ok (.imul, 1) := fqoA_104 rfl (by decide +kernel)
theorem dX1_cheapestNextLot_77 : decode cX1_cheapestNextLot 77 = .ok (.iload 4, 2) := fqoB_21 rfl (by decide +kernel)
theorem dX1_cheapestNextLot_79 : decode cX1_cheapestNextLot 79 = .ok (.iload 7, 2) := fqoB_21 rfl (by decide +kernel)
theorem dX1_cheapestNextLot_81 : decode cX1_cheapestNextLot 81 = .ok (.imul, 1) := fqoA_104 rfl (by decide +kernel)
theorem dX1_cheapestNextLot_82 : decode cX1_cheapestNextLot 82 = .ok (.if_icmp .ge 14, 3) := fqoE_162 rfl (by decide +kernel)
theorem dX1_cheapestNextLot_85 : decode cX1_cheapestNextLot 85 = .ok (.iload 6, 2) := fqoB_21 rfl (by decide +kernel)
theorem dX1_cheapestNextLot_87 : decode cX1_cheapestNextLot 87 = .ok (.istore_n 3, 1) := fqoA_62 rfl (by decide +kernel)
theorem dX1_cheapestNextLot_88 : decode cX1_cheapestNextLot 88 = .ok (.iload 8, 2) := fqoB_21 rfl (by decide +kernel)
theorem dX1_cheapestNextLot_90 : decode cX1_cheapestNextLot 90 = .ok (.istore 4, 2) := fqoB_54 rfl (by decide +kernel)
theorem dX1_cheapestNextLot_92 : decode cX1_cheapestNextLot 92 = .ok (.iload 7, 2) := fqoB_21 rfl (by decide +kernel)
theorem dX1_cheapestNextLot_94 : decode cX1_cheapestNextLot 94 = .ok (.istore 5, 2) := fqoB_54 rfl (by decide +kernel)
theorem dX1_cheapestNextLot_96 : decode cX1_cheapestNextLot 96 = .ok (.iinc 6 1, 3) := fqoF_132 rfl (by decide +kernel)
theorem dX1_cheapestNextLot_99 : decode cX1_cheapestNextLot 99 = .ok (.goto (-88), 3) := fqoE_167 rfl (by decide +kernel)
theorem dX1_cheapestNextLot_102 : decode cX1_cheapestNextLot 102 = .ok (.iload_n 3, 1) := fqoA_29 rfl (by decide +kernel)
theorem dX1_cheapestNextLot_103 : decode cX1_cheapestNextLot 103 = .ok (.ireturn, 1) := fqoA_172 rfl (by decide +kernel)
theorem dX1_nextLotCost_0 : decode cX1_nextLotCost 0 = .ok (.iload_n 1, 1) := fqoA_27 rfl (by decide +kernel)
theorem dX1_nextLotCost_1 : decode cX1_nextLotCost 1 = .ok (.bipush 121, 2) := fqoC_16 rfl (by decide +kernel)
theorem dX1_nextLotCost_3 : decode cX1_nextLotCost 3 = .ok (.imul, 1) := fqoA_104 rfl (by decide +kernel)
theorem dX1_nextLotCost_4 : decode cX1_nextLotCost 4 = .ok (.aload_n 0, 1) := fqoA_42 rfl (by decide +kernel)
theorem dX1_nextLotCost_5 : decode cX1_nextLotCost 5 = .ok (.getfield 18, 3) := fqoD_180 rfl (by decide +kernel)
theorem dX1_nextLotCost_8 : decode cX1_nextLotCost 8 = .ok (.iload_n 1, 1) := fqoA_27 rfl (by decide +kernel)
theorem dX1_nextLotCost_9 : decode cX1_nextLotCost 9 = .ok (.iaload, 1) := fqoA_46 rfl (by decide +kernel)
theorem dX1_nextLotCost_10 : decode cX1_nextLotCost 10 = .ok (.iadd, 1) := fqoA_96 rfl (by decide +kernel)
theorem dX1_nextLotCost_11 : decode cX1_nextLotCost 11 = .ok (.istore_n 3, 1) := fqoA_62 rfl (by decide +kernel)
theorem dX1_nextLotCost_12 : decode cX1_nextLotCost 12 = .ok (.aload_n 0, 1) := fqoA_42 rfl (by decide +kernel)
theorem dX1_nextLotCost_13 : decode cX1_nextLotCost 13 = .ok (.getfield 25, 3) := fqoD_180 rfl (by decide +kernel)
theorem dX1_nextLotCost_16 : decode cX1_nextLotCost 16 = .ok (.iload_n 3, 1) := fqoA_29 rfl (by decide +kernel)
theorem dX1_nextLotCost_17 : decode cX1_nextLotCost 17 = .ok (.iload_n 2, 1) := fqoA_28 rfl (by decide +kernel)
theorem dX1_nextLotCost_18 : decode cX1_nextLotCost 18 = .ok (.iadd, 1) := fqoA_96 rfl (by decide +kernel)
theorem dX1_nextLotCost_19 : decode cX1_nextLotCost 19 = .ok (.iaload, 1) := fqoA_46 rfl (by decide +kernel)
theorem dX1_nextLotCost_20 : decode cX1_nextLotCost 20 = .ok (.aload_n 0, 1) := fqoA_42 rfl (by decide +kernel)
theorem dX1_nextLotCost_21 : decode cX1_nextLotCost 21 = .ok (.getfield 25, 3) := fqoD_180 rfl (by decide +kernel)
theorem dX1_nextLotCost_24 : decode cX1_nextLotCost 24 = .ok (.iload_n 3, 1) := fqoA_29 rfl (by decide +kernel)
theorem dX1_nextLotCost_25 : decode cX1_nextLotCost 25 = .ok (.iaload, 1) := fqoA_46 rfl (by decide +kernel)
theorem dX1_nextLotCost_26 : decode cX1_nextLotCost 26 = .ok (.isub, 1) := fqoA_100 rfl (by decide +kernel)
theorem dX1_nextLotCost_27 : decode cX1_nextLotCost 27 = .ok (.ireturn, 1) := fqoA_172 rfl (by decide +kernel)
theorem dX1_venuesUsed_0 : decode cX1_venuesUsed 0 = .ok (.iconst 0, 1) := fqoA_3 rfl (by decide +kernel)
theorem dX1_venuesUsed_1 : decode cX1_venuesUsed 1 = .ok (.istore_n 2, 1) := fqoA_61 rfl (by decide +kernel)
theorem dX1_venuesUsed_2 : decode cX1_venuesUsed 2 = .ok (.iconst 0, 1) := fqoA_3 rfl (by decide +kernel)
theorem dX1_venuesUsed_3 : decode cX1_venuesUsed 3 = .ok (.istore_n 3, 1) := fqoA_62 rfl (by decide +kernel)
theorem dX1_venuesUsed_4 : decode cX1_venuesUsed 4 = .ok (.iload_n 3, 1) := fqoA_29 rfl (by decide +kernel)
theorem dX1_venuesUsed_5 : decode cX1_venuesUsed 5 = .ok (.aload_n 1, 1) := fqoA_43 rfl (by decide +kernel)
theorem dX1_venuesUsed_6 : decode cX1_venuesUsed 6 = .ok (.getfield 38, 3) := fqoD_180 rfl (by decide +kernel)
theorem dX1_venuesUsed_9 : decode cX1_venuesUsed 9 = .ok (.if_icmp .ge 24, 3) := fqoE_162 rfl (by decide +kernel)
theorem dX1_venuesUsed_12 : decode cX1_venuesUsed 12 = .ok (.aload_n 0, 1) := fqoA_42 rfl (by decide +kernel)
theorem dX1_venuesUsed_13 : decode cX1_venuesUsed 13 = .ok (.getfield 18, 3) := fqoD_180 rfl (by decide +kernel)
theorem dX1_venuesUsed_16 : decode cX1_venuesUsed 16 = .ok (.iload_n 3, 1) := fqoA_29 rfl (by decide +kernel)
theorem dX1_venuesUsed_17 : decode cX1_venuesUsed 17 = .ok (.iaload, 1) := fqoA_46 rfl (by decide +kernel)
theorem dX1_venuesUsed_18 : decode cX1_venuesUsed 18 = .ok (.ifCond .le 9, 3) := fqoE_158 rfl (by decide +kernel)
theorem dX1_venuesUsed_21 : decode cX1_venuesUsed 21 = .ok (.iload_n 2, 1) := fqoA_28 rfl (by decide +kernel)
theorem dX1_venuesUsed_22 : decode cX1_venuesUsed 22 = .ok (.iconst 1, 1) := fqoA_4 rfl (by decide +kernel)
theorem dX1_venuesUsed_23 : decode cX1_venuesUsed 23 = .ok (.iload_n 3, 1) := fqoA_29 rfl (by decide +kernel)
theorem dX1_venuesUsed_24 : decode cX1_venuesUsed 24 = .ok (.ishl, 1) := fqoA_120 rfl (by decide +kernel)
theorem dX1_venuesUsed_25 : decode cX1_venuesUsed 25 = .ok (.ior, 1) := fqoA_128 rfl (by decide +kernel)
theorem dX1_venuesUsed_26 : decode cX1_venuesUsed 26 = .ok (.istore_n 2, 1) := fqoA_61 rfl (by decide +kernel)
theorem dX1_venuesUsed_27 : decode cX1_venuesUsed 27 = .ok (.iinc 3 1, 3) := fqoF_132 rfl (by decide +kernel)
theorem dX1_venuesUsed_30 : decode cX1_venuesUsed 30 = .ok (.goto (-26), 3) := fqoE_167 rfl (by decide +kernel)
theorem dX1_venuesUsed_33 : decode cX1_venuesUsed 33 = .ok (.iload_n 2, 1) := fqoA_28 rfl (by decide +kernel)
theorem dX1_venuesUsed_34 : decode cX1_venuesUsed 34 = .ok (.ireturn, 1) := fqoA_172 rfl (by decide +kernel)
theorem dX1_fewestVenues_0 : decode cX1_fewestVenues 0 = .ok (.iconst 0, 1) := fqoA_3 rfl (by decide +kernel)
theorem dX1_fewestVenues_1 : decode cX1_fewestVenues 1 = .ok (.istore_n 3, 1) := fqoA_62 rfl (by decide +kernel)
theorem dX1_fewestVenues_2 : decode cX1_fewestVenues 2 = .ok (.iload_n 3, 1) := fqoA_29 rfl (by decide +kernel)
theorem dX1_fewestVenues_3 : decode cX1_fewestVenues 3 = .ok (.iload_n 2, 1) := fqoA_28 rfl (by decide +kernel)
theorem dX1_fewestVenues_4 : decode cX1_fewestVenues 4 = .ok (.if_icmp .gt 25, 3) := fqoE_163 rfl (by decide +kernel)
theorem dX1_fewestVenues_7 : decode cX1_fewestVenues 7 = .ok (.aload_n 0, 1) := fqoA_42 rfl (by decide +kernel)
theorem dX1_fewestVenues_8 : decode cX1_fewestVenues 8 = .ok (.getfield 31, 3) := fqoD_180 rfl (by decide +kernel)
theorem dX1_fewestVenues_11 : decode cX1_fewestVenues 11 = .ok (.iload_n 3, 1) := fqoA_29 rfl (by decide +kernel)
theorem dX1_fewestVenues_12 : decode cX1_fewestVenues 12 = .ok (.iload_n 3, 1) := fqoA_29 rfl (by decide +kernel)
theorem dX1_fewestVenues_13 : decode cX1_fewestVenues 13 = .ok (.ifCond .ne 7, 3) := fqoE_154 rfl (by decide +kernel)
theorem dX1_fewestVenues_16 : decode cX1_fewestVenues 16 = .ok (.iconst 0, 1) := fqoA_3 rfl (by decide +kernel)
theorem dX1_fewestVenues_17 : decode cX1_fewestVenues 17 = .ok (.goto 5, 3) := fqoE_167 rfl (by decide +kernel)
theorem dX1_fewestVenues_20 : decode cX1_fewestVenues 20 = .ok (.ldc 43, 2) := fqoB_18 rfl (by decide +kernel)
theorem dX1_fewestVenues_22 : decode cX1_fewestVenues 22 = .ok (.iastore, 1) := fqoA_79 rfl (by decide +kernel)
theorem dX1_fewestVenues_23 : decode cX1_fewestVenues 23 = .ok (.iinc 3 1, 3) := fqoF_132 rfl (by decide +kernel)
theorem dX1_fewestVenues_26 : decode cX1_fewestVenues 26 = .ok (.goto (-24), 3) := fqoE_167 rfl (by decide +kernel)
theorem dX1_fewestVenues_29 : decode cX1_fewestVenues 29 = .ok (.iconst 0, 1) := fqoA_3 rfl (by decide +kernel)
theorem dX1_fewestVenues_30 : decode cX1_fewestVenues 30 = .ok (.istore_n 3, 1) := fqoA_62 rfl (by decide +kernel)
theorem dX1_fewestVenues_31 : decode cX1_fewestVenues 31 = .ok (.iload_n 3, 1) := fqoA_29 rfl (by decide +kernel)
theorem dX1_fewestVenues_32 : decode cX1_fewestVenues 32 = .ok (.aload_n 1, 1) := fqoA_43 rfl (by decide +kernel)
theorem dX1_fewestVenues_33 : decode cX1_fewestVenues 33 = .ok (.getfield 38, 3) := fqoD_180 rfl (by decide +kernel)
theorem dX1_fewestVenues_36 : decode cX1_fewestVenues 36 = .ok (.if_icmp .ge 107, 3) := fqoE_162 rfl (by decide +kernel)
theorem dX1_fewestVenues_39 : decode cX1_fewestVenues 39 = .ok (.aload_n 1, 1) := fqoA_43 rfl (by decide +kernel)
theorem dX1_fewestVenues_40 : decode cX1_fewestVenues 40 = .ok (.iload_n 3, 1) := fqoA_29 rfl (by decide +kernel)
theorem dX1_fewestVenues_41 : decode cX1_fewestVenues 41 = .ok (.invokevirtual 44, 3) := fqoD_182 rfl (by decide +kernel)
theorem dX1_fewestVenues_44 : decode cX1_fewestVenues 44 = .ok (.istore 4, 2) := fqoB_54 rfl (by decide +kernel)
theorem dX1_fewestVenues_46 : decode cX1_fewestVenues 46 = .ok (.aload_n 1, 1) := fqoA_43 rfl (by decide +kernel)
theorem dX1_fewestVenues_47 : decode cX1_fewestVenues 47 = .ok (.iload_n 3, 1) := fqoA_29 rfl (by decide +kernel)
theorem dX1_fewestVenues_48 : decode cX1_fewestVenues 48 = .ok (.iload_n 2, 1) := fqoA_28 rfl (by decide +kernel)
theorem dX1_fewestVenues_49 : decode cX1_fewestVenues 49 = .ok (.invokevirtual 60, 3) := fqoD_182 rfl (by decide +kernel)
theorem dX1_fewestVenues_52 : decode cX1_fewestVenues 52 = .ok (.istore 5, 2) := fqoB_54 rfl (by decide +kernel)
theorem dX1_fewestVenues_54 : decode cX1_fewestVenues 54 = .ok (.iload_n 2, 1) := fqoA_28 rfl (by decide +kernel)
theorem dX1_fewestVenues_55 : decode cX1_fewestVenues 55 = .ok (.istore 6, 2) := fqoB_54 rfl (by decide +kernel)
theorem dX1_fewestVenues_57 : decode cX1_fewestVenues 57 = .ok (.iload 6, 2) := fqoB_21 rfl (by decide +kernel)
theorem dX1_fewestVenues_59 : decode cX1_fewestVenues 59 = .ok (.ifCond .le 78, 3) := fqoE_158 rfl (by decide +kernel)
theorem dX1_fewestVenues_62 : decode cX1_fewestVenues 62 = .ok (.iload 4, 2) := fqoB_21 rfl (by decide +kernel)
theorem dX1_fewestVenues_64 : decode cX1_fewestVenues 64 = .ok (.istore 7, 2) := fqoB_54 rfl (by decide +kernel)
theorem dX1_fewestVenues_66 : decode cX1_fewestVenues 66 = .ok (.iload 7, 2) := fqoB_21 rfl (by decide +kernel)
theorem dX1_fewestVenues_68 : decode cX1_fewestVenues 68 = .ok (.iload 5, 2) := fqoB_21 rfl (by decide +kernel)
theorem dX1_fewestVenues_70 : decode cX1_fewestVenues 70 = .ok (.if_icmp .gt 61, 3) := fqoE_163 rfl (by decide +kernel)
theorem dX1_fewestVenues_73 : decode cX1_fewestVenues 73 = .ok (.iload 7, 2) := fqoB_21 rfl (by decide +kernel)
theorem dX1_fewestVenues_75 : decode cX1_fewestVenues 75 = .ok (.iload 6, 2) := fqoB_21 rfl (by decide +kernel)
theorem dX1_fewestVenues_77 : decode cX1_fewestVenues 77 = .ok (.if_icmp .gt 54, 3) := fqoE_163 rfl (by decide +kernel)
theorem dX1_fewestVenues_80 : decode cX1_fewestVenues 80 = .ok (.aload_n 0, 1) := fqoA_42 rfl (by decide +kernel)
theorem dX1_fewestVenues_81 : decode cX1_fewestVenues 81 = .ok (.getfield 31, 3) := fqoD_180 rfl (by decide +kernel)
theorem dX1_fewestVenues_84 : decode cX1_fewestVenues 84 = .ok (.iload 6, 2) := fqoB_21 rfl (by decide +kernel)
theorem dX1_fewestVenues_86 : decode cX1_fewestVenues 86 = .ok (.iload 7, 2) := fqoB_21 rfl (by decide +kernel)
theorem dX1_fewestVenues_88 : decode cX1_fewestVenues 88 = .ok (.isub, 1) := fqoA_100 rfl (by decide +kernel)
theorem dX1_fewestVenues_89 : decode cX1_fewestVenues 89 = .ok (.iaload, 1) := fqoA_46 rfl (by decide +kernel)
theorem dX1_fewestVenues_90 : decode cX1_fewestVenues 90 = .ok (.iconst 1, 1) := fqoA_4 rfl (by decide +kernel)
theorem dX1_fewestVenues_91 : decode cX1_fewestVenues 91 = .ok (.iadd, 1) := fqoA_96 rfl (by decide +kernel)
theorem dX1_fewestVenues_92 : decode cX1_fewestVenues 92 = .ok (.aload_n 0, 1) := fqoA_42 rfl (by decide +kernel)
theorem dX1_fewestVenues_93 : decode cX1_fewestVenues 93 = .ok (.getfield 31, 3) := fqoD_180 rfl (by decide +kernel)
theorem dX1_fewestVenues_96 : decode cX1_fewestVenues 96 = .ok (.iload 6, 2) := fqoB_21 rfl (by decide +kernel)
theorem dX1_fewestVenues_98 : decode cX1_fewestVenues 98 = .ok (.iaload, 1) := fqoA_46 rfl (by decide +kernel)
theorem dX1_fewestVenues_99 : decode cX1_fewestVenues 99 = .ok (.if_icmp .ge 22, 3) := fqoE_162 rfl (by decide +kernel)
theorem dX1_fewestVenues_102 : decode cX1_fewestVenues 102 = .ok (.aload_n 0, 1) := fqoA_42 rfl (by decide +kernel)
theorem dX1_fewestVenues_103 : decode cX1_fewestVenues 103 = .ok (.getfield 31, 3) := fqoD_180 rfl (by decide +kernel)
theorem dX1_fewestVenues_106 : decode cX1_fewestVenues 106 = .ok (.iload 6, 2) := fqoB_21 rfl (by decide +kernel)
theorem dX1_fewestVenues_108 : decode cX1_fewestVenues 108 = .ok (.aload_n 0, 1) := fqoA_42 rfl (by decide +kernel)
theorem dX1_fewestVenues_109 : decode cX1_fewestVenues 109 = .ok (.getfield 31, 3) := fqoD_180 rfl (by decide +kernel)
theorem dX1_fewestVenues_112 : decode cX1_fewestVenues 112 = .ok (.iload 6, 2) := fqoB_21 rfl (by decide +kernel)
theorem dX1_fewestVenues_114 : decode cX1_fewestVenues 114 = .ok (.iload 7, 2) := fqoB_21 rfl (by decide +kernel)
theorem dX1_fewestVenues_116 : decode cX1_fewestVenues 116 = .ok (.isub, 1) := fqoA_100 rfl (by decide +kernel)
theorem dX1_fewestVenues_117 : decode cX1_fewestVenues 117 = .ok (.iaload, 1) := fqoA_46 rfl (by decide +kernel)
theorem dX1_fewestVenues_118 : decode cX1_fewestVenues 118 = .ok (.iconst 1, 1) := fqoA_4 rfl (by decide +kernel)
theorem dX1_fewestVenues_119 : decode cX1_fewestVenues 119 = .ok (.iadd, 1) := fqoA_96 rfl (by decide +kernel)
theorem dX1_fewestVenues_120 : decode cX1_fewestVenues 120 = .ok (.iastore, 1) := fqoA_79 rfl (by decide +kernel)
theorem dX1_fewestVenues_121 : decode cX1_fewestVenues 121 = .ok (.iload 7, 2) := fqoB_21 rfl (by decide +kernel)
theorem dX1_fewestVenues_123 : decode cX1_fewestVenues 123 = .ok (.iload 4, 2) := fqoB_21 rfl (by decide +kernel)
theorem dX1_fewestVenues_125 : decode cX1_fewestVenues 125 = .ok (.iadd, 1) := fqoA_96 rfl (by decide +kernel)
theorem dX1_fewestVenues_126 : decode cX1_fewestVenues 126 = .ok (.istore 7, 2) := fqoB_54 rfl (by decide +kernel)
theorem dX1_fewestVenues_128 : decode cX1_fewestVenues 128 = .ok (.goto (-62), 3) := fqoE_167 rfl (by decide +kernel)
theorem dX1_fewestVenues_131 : decode cX1_fewestVenues 131 = .ok (.iinc 6 (-1), 3) := fqoF_132 rfl (by decide +kernel)
theorem dX1_fewestVenues_134 : decode cX1_fewestVenues 134 = .ok (.goto (-77), 3) := fqoE_167 rfl (by decide +kernel)
theorem dX1_fewestVenues_137 : decode cX1_fewestVenues 137 = .ok (.iinc 3 1, 3) := fqoF_132 rfl (by decide +kernel)
theorem dX1_fewestVenues_140 : decode cX1_fewestVenues 140 = .ok (.goto (-109), 3) := fqoE_167 rfl (by decide +kernel)
theorem dX1_fewestVenues_143 : decode cX1_fewestVenues 143 = .ok (.aload_n 0, 1) := fqoA_42 rfl (by decide +kernel)
theorem dX1_fewestVenues_144 : decode cX1_fewestVenues 144 = .ok (.getfield 31, 3) := fqoD_180 rfl (by decide +kernel)
theorem dX1_fewestVenues_147 : decode cX1_fewestVenues 147 = .ok (.aload_n 0, 1) := fqoA_42 rfl (by decide +kernel)
theorem dX1_fewestVenues_148 : decode cX1_fewestVenues 148 = .ok (.getfield 31, 3) := fqoD_180 rfl (by decide +kernel)
theorem dX1_fewestVenues_151 : decode cX1_fewestVenues 151 = .ok (.iload_n 2, 1) := fqoA_28 rfl (by decide +kernel)
theorem dX1_fewestVenues_152 : decode cX1_fewestVenues 152 = .ok (.invokestatic 52, 3) := fqoD_184 rfl (by decide +kernel)
theorem dX1_fewestVenues_155 : decode cX1_fewestVenues 155 = .ok (.iaload, 1) := fqoA_46 rfl (by decide +kernel)
theorem dX1_fewestVenues_156 : decode cX1_fewestVenues 156 = .ok (.ireturn, 1) := fqoA_172 rfl (by decide +kernel)
theorem dX2_init_0 : decode cX2_init 0 = .ok (.aload_n 0, 1) := fqoA_42 rfl (by decide +kernel)
theorem dX2_init_1 : decode cX2_init 1 = .ok (.invokespecial 3, 3) := fqoD_183 rfl (by decide +kernel)
theorem dX2_init_4 : decode cX2_init 4 = .ok (.aload_n 0, 1) := fqoA_42 rfl (by decide +kernel)
theorem dX2_init_5 : decode cX2_init 5 = .ok (.iconst 0, 1) := fqoA_3 rfl (by decide +kernel)
theorem dX2_init_6 : decode cX2_init 6 = .ok (.putfield 9, 3) := fqoD_181 rfl (by decide +kernel)
theorem dX2_init_9 : decode cX2_init 9 = .ok (.aload_n 0, 1) := fqoA_42 rfl (by decide +kernel)
theorem dX2_init_10 : decode cX2_init 10 = .ok (.bipush 30, 2) := fqoC_16 rfl (by decide +kernel)
theorem dX2_init_12 : decode cX2_init 12 = .ok (.newarray .int, 2) := by decide +kernel
theorem dX2_init_14 : decode cX2_init 14 = .ok (.putfield 15, 3) := fqoD_181 rfl (by decide +kernel)
theorem dX2_init_17 : decode cX2_init 17 = .ok (.aload_n 0, 1) := fqoA_42 rfl (by decide +kernel)
theorem dX2_init_18 : decode cX2_init 18 = .ok (.bipush 30, 2) := fqoC_16 rfl (by decide +kernel)
theorem dX2_init_20 : decode cX2_init 20 = .ok (.newarray .int, 2) := by decide +kernel
theorem dX2_init_22 : decode cX2_init 22 = .ok (.putfield 19, 3) := fqoD_181 rfl (by decide +kernel)
theorem dX2_init_25 : decode cX2_init 25 = .ok (.aload_n 0, 1) := fqoA_42 rfl (by decide +kernel)
theorem dX2_init_26 : decode cX2_init 26 = .ok (.bipush 30, 2) := fqoC_16 rfl (by decide +kernel)
theorem dX2_init_28 : decode cX2_init 28 = .ok (.newarray .int, 2) := by decide +kernel
theorem dX2_init_30 : decode cX2_init 30 = .ok (.putfield 22, 3) := fqoD_181 rfl (by decide +kernel)
theorem dX2_init_33 : decode cX2_init 33 = .ok (.return_, 1) := fqoA_177 rfl (by decide +kernel)
theorem dX2_copyFrom_0 : decode cX2_copyFrom 0 = .ok (.aload_n 0, 1) := fqoA_42 rfl (by decide +kernel)
theorem dX2_copyFrom_1 : decode cX2_copyFrom 1 = .ok (.aload_n 1, 1) := fqoA_43 rfl (by decide +kernel)
theorem dX2_copyFrom_2 : decode cX2_copyFrom 2 = .ok (.getfield 9, 3) := fqoD_180 rfl (by decide +kernel)
theorem dX2_copyFrom_5 : decode cX2_copyFrom 5 = .ok (.putfield 9, 3) := fqoD_181 rfl (by decide +kernel)
theorem dX2_copyFrom_8 : decode cX2_copyFrom 8 = .ok (.aload_n 1, 1) := fqoA_43 rfl (by decide +kernel)
theorem dX2_copyFrom_9 : decode cX2_copyFrom 9 = .ok (.getfield 15, 3) := fqoD_180 rfl (by decide +kernel)
theorem dX2_copyFrom_12 : decode cX2_copyFrom 12 = .ok (.iconst 0, 1) := fqoA_3 rfl (by decide +kernel)
theorem dX2_copyFrom_13 : decode cX2_copyFrom 13 = .ok (.aload_n 0, 1) := fqoA_42 rfl (by decide +kernel)
theorem dX2_copyFrom_14 : decode cX2_copyFrom 14 = .ok (.getfield 15, 3) := fqoD_180 rfl (by decide +kernel)
theorem dX2_copyFrom_17 : decode cX2_copyFrom 17 = .ok (.iconst 0, 1) := fqoA_3 rfl (by decide +kernel)
theorem dX2_copyFrom_18 : decode cX2_copyFrom 18 = .ok (.bipush 30, 2) := fqoC_16 rfl (by decide +kernel)
theorem dX2_copyFrom_20 : decode cX2_copyFrom 20 = .ok (.invokestatic 25, 3) := fqoD_184 rfl (by decide +kernel)
theorem dX2_copyFrom_23 : decode cX2_copyFrom 23 = .ok (.aload_n 1, 1) := fqoA_43 rfl (by decide +kernel)
theorem dX2_copyFrom_24 : decode cX2_copyFrom 24 = .ok (.getfield 19, 3) := fqoD_180 rfl (by decide +kernel)
theorem dX2_copyFrom_27 : decode cX2_copyFrom 27 = .ok (.iconst 0, 1) := fqoA_3 rfl (by decide +kernel)
theorem dX2_copyFrom_28 : decode cX2_copyFrom 28 = .ok (.aload_n 0, 1) := fqoA_42 rfl (by decide +kernel)
theorem dX2_copyFrom_29 : decode cX2_copyFrom 29 = .ok (.getfield 19, 3) := fqoD_180 rfl (by decide +kernel)
theorem dX2_copyFrom_32 : decode cX2_copyFrom 32 = .ok (.iconst 0, 1) := fqoA_3 rfl (by decide +kernel)
theorem dX2_copyFrom_33 : decode cX2_copyFrom 33 = .ok (.bipush 30, 2) := fqoC_16 rfl (by decide +kernel)
theorem dX2_copyFrom_35 : decode cX2_copyFrom 35 = .ok (.invokestatic 25, 3) := fqoD_184 rfl (by decide +kernel)
theorem dX2_copyFrom_38 : decode cX2_copyFrom 38 = .ok (.aload_n 1, 1) := fqoA_43 rfl (by decide +kernel)
theorem dX2_copyFrom_39 : decode cX2_copyFrom 39 = .ok (.getfield 22, 3) := fqoD_180 rfl (by decide +kernel)
theorem dX2_copyFrom_42 : decode cX2_copyFrom 42 = .ok (.iconst 0, 1) := fqoA_3 rfl (by decide +kernel)
theorem dX2_copyFrom_43 : decode cX2_copyFrom 43 = .ok (.aload_n 0, 1) := fqoA_42 rfl (by decide +kernel)
theorem dX2_copyFrom_44 : decode cX2_copyFrom 44 = .ok (.getfield 22, 3) := fqoD_180 rfl (by decide +kernel)
theorem dX2_copyFrom_47 : decode cX2_copyFrom 47 = .ok (.iconst 0, 1) := fqoA_3 rfl (by decide +kernel)
theorem dX2_copyFrom_48 : decode cX2_copyFrom 48 = .ok (.bipush 30, 2) := fqoC_16 rfl (by decide +kernel)
theorem dX2_copyFrom_50 : decode cX2_copyFrom 50 = .ok (.invokestatic 25, 3) := fqoD_184 rfl (by decide +kernel)
theorem dX2_copyFrom_53 : decode cX2_copyFrom 53 = .ok (.return_, 1) := fqoA_177 rfl (by decide +kernel)
theorem dX2_find_0 : decode cX2_find 0 = .ok (.iconst 0, 1) := fqoA_3 rfl (by decide +kernel)
theorem dX2_find_1 : decode cX2_find 1 = .ok (.istore_n 3, 1) := fqoA_62 rfl (by decide +kernel)
theorem dX2_find_2 : decode cX2_find 2 = .ok (.iload_n 3, 1) := fqoA_29 rfl (by decide +kernel)
theorem dX2_find_3 : decode cX2_find 3 = .ok (.aload_n 0, 1) := fqoA_42 rfl (by decide +kernel)
theorem dX2_find_4 : decode cX2_find 4 = .ok (.getfield 9, 3) := fqoD_180 rfl (by decide +kernel)
theorem dX2_find_7 : decode cX2_find 7 = .ok (.if_icmp .ge 31, 3) := fqoE_162 rfl (by decide +kernel)
theorem dX2_find_10 : decode cX2_find 10 = .ok (.aload_n 0, 1) := fqoA_42 rfl (by decide +kernel)
theorem dX2_find_11 : decode cX2_find 11 = .ok (.getfield 15, 3) := fqoD_180 rfl (by decide +kernel)
theorem dX2_find_14 : decode cX2_find 14 = .ok (.iload_n 3, 1) := fqoA_29 rfl (by decide +kernel)
theorem dX2_find_15 : decode cX2_find 15 = .ok (.iaload, 1) := fqoA_46 rfl (by decide +kernel)
theorem dX2_find_16 : decode cX2_find 16 = .ok (.iload_n 1, 1) := fqoA_27 rfl (by decide +kernel)
theorem dX2_find_17 : decode cX2_find 17 = .ok (.if_icmp .ne 15, 3) := fqoE_160 rfl (by decide +kernel)
theorem dX2_find_20 : decode cX2_find 20 = .ok (.aload_n 0, 1) := fqoA_42 rfl (by decide +kernel)
theorem dX2_find_21 : decode cX2_find 21 = .ok (.getfield 19, 3) := fqoD_180 rfl (by decide +kernel)
theorem dX2_find_24 : decode cX2_find 24 = .ok (.iload_n 3, 1) := fqoA_29 rfl (by decide +kernel)
theorem dX2_find_25 : decode cX2_find 25 = .ok (.iaload, 1) := fqoA_46 rfl (by decide +kernel)
theorem dX2_find_26 : decode cX2_find 26 = .ok (.iload_n 2, 1) := fqoA_28 rfl (by decide +kernel)
theorem dX2_find_27 : decode cX2_find 27 = .ok (.if_icmp .ne 5, 3) := fqoE_160 rfl (by decide +kernel)
theorem dX2_find_30 : decode cX2_find 30 = .ok (.iload_n 3, 1) := fqoA_29 rfl (by decide +kernel)
theorem dX2_find_31 : decode cX2_find 31 = .ok (.ireturn, 1) := fqoA_172 rfl (by decide +kernel)
theorem dX2_find_32 : decode cX2_find 32 = .ok (.iinc 3 1, 3) := fqoF_132 rfl (by decide +kernel)
theorem dX2_find_35 : decode cX2_find 35 = .ok (.goto (-33), 3) := fqoE_167 rfl (by decide +kernel)
theorem dX2_find_38 : decode cX2_find 38 = .ok (.iconst (-1), 1) := fqoA_2 rfl (by decide +kernel)
theorem dX2_find_39 : decode cX2_find 39 = .ok (.ireturn, 1) := fqoA_172 rfl (by decide +kernel)
theorem dX2_unitsAt_0 : decode cX2_unitsAt 0 = .ok (.aload_n 0, 1) := fqoA_42 rfl (by decide +kernel)
theorem dX2_unitsAt_1 : decode cX2_unitsAt 1 = .ok (.iload_n 1, 1) := fqoA_27 rfl (by decide +kernel)
theorem dX2_unitsAt_2 : decode cX2_unitsAt 2 = .ok (.iload_n 2, 1) := fqoA_28 rfl (by decide +kernel)
theorem dX2_unitsAt_3 : decode cX2_unitsAt 3 = .ok (.invokevirtual 31, 3) := fqoD_182 rfl (by decide +kernel)
theorem dX2_unitsAt_6 : decode cX2_unitsAt 6 = .ok (.istore_n 3, 1) := fqoA_62 rfl (by decide +kernel)
theorem dX2_unitsAt_7 : decode cX2_unitsAt 7 = .ok (.iload_n 3, 1) := fqoA_29 rfl (by decide +kernel)
theorem dX2_unitsAt_8 : decode cX2_unitsAt 8 = .ok (.iconst (-1), 1) := fqoA_2 rfl (by decide +kernel)
theorem dX2_unitsAt_9 : decode cX2_unitsAt 9 = .ok (.if_icmp .ne 7, 3) := fqoE_160 rfl (by decide +kernel)
theorem dX2_unitsAt_12 : decode cX2_unitsAt 12 = .ok (.iconst 0, 1) := fqoA_3 rfl (by decide +kernel)
theorem dX2_unitsAt_13 : decode cX2_unitsAt 13 = .ok (.goto 9, 3) := fqoE_167 rfl (by decide +kernel)
theorem dX2_unitsAt_16 : decode cX2_unitsAt 16 = .ok (.aload_n 0, 1) := fqoA_42 rfl (by decide +kernel)
theorem dX2_unitsAt_17 : decode cX2_unitsAt 17 = .ok (.getfield 22, 3) := fqoD_180 rfl (by decide +kernel)
theorem dX2_unitsAt_20 : decode cX2_unitsAt 20 = .ok (.iload_n 3, 1) := fqoA_29 rfl (by decide +kernel)
theorem dX2_unitsAt_21 : decode cX2_unitsAt 21 = .ok (.iaload, 1) := fqoA_46 rfl (by decide +kernel)
theorem dX2_unitsAt_22 : decode cX2_unitsAt 22 = .ok (.ireturn, 1) := fqoA_172 rfl (by decide +kernel)
theorem dX2_note_0 : decode cX2_note 0 = .ok (.aload_n 0, 1) := fqoA_42 rfl (by decide +kernel)
theorem dX2_note_1 : decode cX2_note 1 = .ok (.iload_n 1, 1) := fqoA_27 rfl (by decide +kernel)
theorem dX2_note_2 : decode cX2_note 2 = .ok (.iload_n 2, 1) := fqoA_28 rfl (by decide +kernel)
theorem dX2_note_3 : decode cX2_note 3 = .ok (.invokevirtual 31, 3) := fqoD_182 rfl (by decide +kernel)
theorem dX2_note_6 : decode cX2_note 6 = .ok (.istore 4, 2) := fqoB_54 rfl (by decide +kernel)
theorem dX2_note_8 : decode cX2_note 8 = .ok (.iload 4, 2) := fqoB_21 rfl (by decide +kernel)
theorem dX2_note_10 : decode cX2_note 10 = .ok (.iconst (-1), 1) := fqoA_2 rfl (by decide +kernel)
theorem dX2_note_11 : decode cX2_note 11 = .ok (.if_icmp .eq 17, 3) := fqoE_159 rfl (by decide +kernel)
theorem dX2_note_14 : decode cX2_note 14 = .ok (.aload_n 0, 1) := fqoA_42 rfl (by decide +kernel)
theorem dX2_note_15 : decode cX2_note 15 = .ok (.getfield 22, 3) := fqoD_180 rfl (by decide +kernel)
theorem dX2_note_18 : decode cX2_note 18 = .ok (.iload 4, 2) := fqoB_21 rfl (by decide +kernel)
theorem dX2_note_20 : decode cX2_note 20 = .ok (.dup2, 1) := fqoA_92 rfl (by decide +kernel)
theorem dX2_note_21 : decode cX2_note 21 = .ok (.iaload, 1) := fqoA_46 rfl (by decide +kernel)
theorem dX2_note_22 : decode cX2_note 22 = .ok (.iload_n 3, 1) := fqoA_29 rfl (by decide +kernel)
theorem dX2_note_23 : decode cX2_note 23 = .ok (.iadd, 1) := fqoA_96 rfl (by decide +kernel)
theorem dX2_note_24 : decode cX2_note 24 = .ok (.iastore, 1) := fqoA_79 rfl (by decide +kernel)
theorem dX2_note_25 : decode cX2_note 25 = .ok (.goto 52, 3) := fqoE_167 rfl (by decide +kernel)
theorem dX2_note_28 : decode cX2_note 28 = .ok (.aload_n 0, 1) := fqoA_42 rfl (by decide +kernel)
theorem dX2_note_29 : decode cX2_note 29 = .ok (.getfield 9, 3) := fqoD_180 rfl (by decide +kernel)
theorem dX2_note_32 : decode cX2_note 32 = .ok (.bipush 30, 2) := fqoC_16 rfl (by decide +kernel)
theorem dX2_note_34 : decode cX2_note 34 = .ok (.if_icmp .ge 43, 3) := fqoE_162 rfl (by decide +kernel)
theorem dX2_note_37 : decode cX2_note 37 = .ok (.aload_n 0, 1) := fqoA_42 rfl (by decide +kernel)
theorem dX2_note_38 : decode cX2_note 38 = .ok (.getfield 15, 3) := fqoD_180 rfl (by decide +kernel)
theorem dX2_note_41 : decode cX2_note 41 = .ok (.aload_n 0, 1) := fqoA_42 rfl (by decide +kernel)
theorem dX2_note_42 : decode cX2_note 42 = .ok (.getfield 9, 3) := fqoD_180 rfl (by decide +kernel)
theorem dX2_note_45 : decode cX2_note 45 = .ok (.iload_n 1, 1) := fqoA_27 rfl (by decide +kernel)
theorem dX2_note_46 : decode cX2_note 46 = .ok (.iastore, 1) := fqoA_79 rfl (by decide +kernel)
theorem dX2_note_47 : decode cX2_note 47 = .ok (.aload_n 0, 1) := fqoA_42 rfl (by decide +kernel)
theorem dX2_note_48 : decode cX2_note 48 = .ok (.getfield 19, 3) := fqoD_180 rfl (by decide +kernel)
theorem dX2_note_51 : decode cX2_note 51 = .ok (.aload_n 0, 1) := fqoA_42 rfl (by decide +kernel)
theorem dX2_note_52 : decode cX2_note 52 = .ok (.getfield 9, 3) := fqoD_180 rfl (by decide +kernel)
theorem dX2_note_55 : decode cX2_note 55 = .ok (.iload_n 2, 1) := fqoA_28 rfl (by decide +kernel)
theorem dX2_note_56 : decode cX2_note 56 = .ok (.iastore, 1) := fqoA_79 rfl (by decide +kernel)
theorem dX2_note_57 : decode cX2_note 57 = .ok (.aload_n 0, 1) := fqoA_42 rfl (by decide +kernel)
theorem dX2_note_58 : decode cX2_note 58 = .ok (.getfield 22, 3) := fqoD_180 rfl (by decide +kernel)
theorem dX2_note_61 : decode cX2_note 61 = .ok (.aload_n 0, 1) := fqoA_42 rfl (by decide +kernel)
theorem dX2_note_62 : decode cX2_note 62 = .ok (.getfield 9, 3) := fqoD_180 rfl (by decide +kernel)
theorem dX2_note_65 : decode cX2_note 65 = .ok (.iload_n 3, 1) := fqoA_29 rfl (by decide +kernel)
theorem dX2_note_66 : decode cX2_note 66 = .ok (.iastore, 1) := fqoA_79 rfl (by decide +kernel)
theorem dX2_note_67 : decode cX2_note 67 = .ok (.aload_n 0, 1) := fqoA_42 rfl (by decide +kernel)
theorem dX2_note_68 : decode cX2_note 68 = .ok (.dup, 1) := fqoA_89 rfl (by decide +kernel)
theorem dX2_note_69 : decode cX2_note 69 = .ok (.getfield 9, 3) := fqoD_180 rfl (by decide +kernel)
theorem dX2_note_72 : decode cX2_note 72 = .ok (.iconst 1, 1) := fqoA_4 rfl (by decide +kernel)
theorem dX2_note_73 : decode cX2_note 73 = .ok (.iadd, 1) := fqoA_96 rfl (by decide +kernel)
theorem dX2_note_74 : decode cX2_note 74 = .ok (.putfield 9, 3) := fqoD_181 rfl (by decide +kernel)
theorem dX2_note_77 : decode cX2_note 77 = .ok (.return_, 1) := fqoA_177 rfl (by decide +kernel)
theorem dX3_init_0 : decode cX3_init 0 = .ok (.aload_n 0, 1) := fqoA_42 rfl (by decide +kernel)
theorem dX3_init_1 : decode cX3_init 1 = .ok (.invokespecial 3, 3) := fqoD_183 rfl (by decide +kernel)
theorem dX3_init_4 : decode cX3_init 4 = .ok (.aload_n 0, 1) := fqoA_42 rfl (by decide +kernel)
theorem dX3_init_5 : decode cX3_init 5 = .ok (.iconst 0, 1) := fqoA_3 rfl (by decide +kernel)
theorem dX3_init_6 : decode cX3_init 6 = .ok (.putfield 9, 3) := fqoD_181 rfl (by decide +kernel)
theorem dX3_init_9 : decode cX3_init 9 = .ok (.aload_n 0, 1) := fqoA_42 rfl (by decide +kernel)
theorem dX3_init_10 : decode cX3_init 10 = .ok (.iconst 0, 1) := fqoA_3 rfl (by decide +kernel)
theorem dX3_init_11 : decode cX3_init 11 = .ok (.putfield 15, 3) := fqoD_181 rfl (by decide +kernel)
theorem dX3_init_14 : decode cX3_init 14 = .ok (.aload_n 0, 1) := fqoA_42 rfl (by decide +kernel)
theorem dX3_init_15 : decode cX3_init 15 = .ok (.iconst 0, 1) := fqoA_3 rfl (by decide +kernel)
theorem dX3_init_16 : decode cX3_init 16 = .ok (.putfield 18, 3) := fqoD_181 rfl (by decide +kernel)
theorem dX3_init_19 : decode cX3_init 19 = .ok (.aload_n 0, 1) := fqoA_42 rfl (by decide +kernel)
theorem dX3_init_20 : decode cX3_init 20 = .ok (.iconst 0, 1) := fqoA_3 rfl (by decide +kernel)
theorem dX3_init_21 : decode cX3_init 21 = .ok (.putfield 21, 3) := fqoD_181 rfl (by decide +kernel)
theorem dX3_init_24 : decode cX3_init 24 = .ok (.aload_n 0, 1) := fqoA_42 rfl (by decide +kernel)
theorem dX3_init_25 : decode cX3_init 25 = .ok (.iconst 0, 1) := fqoA_3 rfl (by decide +kernel)
theorem dX3_init_26 : decode cX3_init 26 = .ok (.putfield 24, 3) := fqoD_181 rfl (by decide +kernel)
theorem dX3_init_29 : decode cX3_init 29 = .ok (.aload_n 0, 1) := fqoA_42 rfl (by decide +kernel)
theorem dX3_init_30 : decode cX3_init 30 = .ok (.iconst 5, 1) := fqoA_8 rfl (by decide +kernel)
theorem dX3_init_31 : decode cX3_init 31 = .ok (.newarray .int, 2) := by decide +kernel
theorem dX3_init_33 : decode cX3_init 33 = .ok (.putfield 27, 3) := fqoD_181 rfl (by decide +kernel)
theorem dX3_init_36 : decode cX3_init 36 = .ok (.aload_n 0, 1) := fqoA_42 rfl (by decide +kernel)
theorem dX3_init_37 : decode cX3_init 37 = .ok (.iconst 5, 1) := fqoA_8 rfl (by decide +kernel)
theorem dX3_init_38 : decode cX3_init 38 = .ok (.newarray .int, 2) := by decide +kernel
theorem dX3_init_40 : decode cX3_init 40 = .ok (.putfield 31, 3) := fqoD_181 rfl (by decide +kernel)
theorem dX3_init_43 : decode cX3_init 43 = .ok (.aload_n 0, 1) := fqoA_42 rfl (by decide +kernel)
theorem dX3_init_44 : decode cX3_init 44 = .ok (.iconst 5, 1) := fqoA_8 rfl (by decide +kernel)
theorem dX3_init_45 : decode cX3_init 45 = .ok (.newarray .int, 2) := by decide +kernel
theorem dX3_init_47 : decode cX3_init 47 = .ok (.putfield 34, 3) := fqoD_181 rfl (by decide +kernel)
theorem dX3_init_50 : decode cX3_init 50 = .ok (.aload_n 0, 1) := fqoA_42 rfl (by decide +kernel)
theorem dX3_init_51 : decode cX3_init 51 = .ok (.iconst 5, 1) := fqoA_8 rfl (by decide +kernel)
theorem dX3_init_52 : decode cX3_init 52 = .ok (.newarray .int, 2) := by decide +kernel
theorem dX3_init_54 : decode cX3_init 54 = .ok (.putfield 37, 3) := fqoD_181 rfl (by decide +kernel)
theorem dX3_init_57 : decode cX3_init 57 = .ok (.aload_n 0, 1) := fqoA_42 rfl (by decide +kernel)
theorem dX3_init_58 : decode cX3_init 58 = .ok (.iconst 5, 1) := fqoA_8 rfl (by decide +kernel)
theorem dX3_init_59 : decode cX3_init 59 = .ok (.newarray .int, 2) := by decide +kernel
theorem dX3_init_61 : decode cX3_init 61 = .ok (.putfield 40, 3) := fqoD_181 rfl (by decide +kernel)
theorem dX3_init_64 : decode cX3_init 64 = .ok (.aload_n 0, 1) := fqoA_42 rfl (by decide +kernel)
theorem dX3_init_65 : decode cX3_init 65 = .ok (.iconst 5, 1) := fqoA_8 rfl (by decide +kernel)
theorem dX3_init_66 : decode cX3_init 66 = .ok (.newarray .int, 2) := by decide +kernel
theorem dX3_init_68 : decode cX3_init 68 = .ok (.putfield 43, 3) := fqoD_181 rfl (by decide +kernel)
theorem dX3_init_71 : decode cX3_init 71 = .ok (.aload_n 0, 1) := fqoA_42 rfl (by decide +kernel)
theorem dX3_init_72 : decode cX3_init 72 = .ok (.iconst 5, 1) := fqoA_8 rfl (by decide +kernel)
theorem dX3_init_73 : decode cX3_init 73 = .ok (.newarray .int, 2) := by decide +kernel
theorem dX3_init_75 : decode cX3_init 75 = .ok (.putfield 46, 3) := fqoD_181 rfl (by decide +kernel)
theorem dX3_init_78 : decode cX3_init 78 = .ok (.aload_n 0, 1) := fqoA_42 rfl (by decide +kernel)
theorem dX3_init_79 : decode cX3_init 79 = .ok (.bipush 30, 2) := fqoC_16 rfl (by decide +kernel)
theorem dX3_init_81 : decode cX3_init 81 = .ok (.newarray .int, 2) := by decide +kernel
theorem dX3_init_83 : decode cX3_init 83 = .ok (.putfield 49, 3) := fqoD_181 rfl (by decide +kernel)
theorem dX3_init_86 : decode cX3_init 86 = .ok (.aload_n 0, 1) := fqoA_42 rfl (by decide +kernel)
theorem dX3_init_87 : decode cX3_init 87 = .ok (.bipush 30, 2) := fqoC_16 rfl (by decide +kernel)
theorem dX3_init_89 : decode cX3_init 89 = .ok (.newarray .int, 2) := by decide +kernel
theorem dX3_init_91 : decode cX3_init 91 = .ok (.putfield 52, 3) := fqoD_181 rfl (by decide +kernel)
theorem dX3_init_94 : decode cX3_init 94 = .ok (.aload_n 0, 1) := fqoA_42 rfl (by decide +kernel)
theorem dX3_init_95 : decode cX3_init 95 = .ok (.bipush 10, 2) := fqoC_16 rfl (by decide +kernel)
theorem dX3_init_97 : decode cX3_init 97 = .ok (.newarray .int, 2) := by decide +kernel
theorem dX3_init_99 : decode cX3_init 99 = .ok (.putfield 55, 3) := fqoD_181 rfl (by decide +kernel)
theorem dX3_init_102 : decode cX3_init 102 = .ok (.aload_n 0, 1) := fqoA_42 rfl (by decide +kernel)
theorem dX3_init_103 : decode cX3_init 103 = .ok (.bipush 10, 2) := fqoC_16 rfl (by decide +kernel)
theorem dX3_init_105 : decode cX3_init 105 = .ok (.newarray .int, 2) := by decide +kernel
theorem dX3_init_107 : decode cX3_init 107 = .ok (.putfield 58, 3) := fqoD_181 rfl (by decide +kernel)
theorem dX3_init_110 : decode cX3_init 110 = .ok (.aload_n 0, 1) := fqoA_42 rfl (by decide +kernel)
theorem dX3_init_111 : decode cX3_init 111 = .ok (.bipush 10, 2) := fqoC_16 rfl (by decide +kernel)
theorem dX3_init_113 : decode cX3_init 113 = .ok (.newarray .int, 2) := by decide +kernel
theorem dX3_init_115 : decode cX3_init 115 = .ok (.putfield 61, 3) := fqoD_181 rfl (by decide +kernel)
theorem dX3_init_118 : decode cX3_init 118 = .ok (.return_, 1) := fqoA_177 rfl (by decide +kernel)
theorem dX3_clear_0 : decode cX3_clear 0 = .ok (.aload_n 0, 1) := fqoA_42 rfl (by decide +kernel)
theorem dX3_clear_1 : decode cX3_clear 1 = .ok (.iconst 0, 1) := fqoA_3 rfl (by decide +kernel)
theorem dX3_clear_2 : decode cX3_clear 2 = .ok (.putfield 9, 3) := fqoD_181 rfl (by decide +kernel)
theorem dX3_clear_5 : decode cX3_clear 5 = .ok (.aload_n 0, 1) := fqoA_42 rfl (by decide +kernel)
theorem dX3_clear_6 : decode cX3_clear 6 = .ok (.iconst 0, 1) := fqoA_3 rfl (by decide +kernel)
theorem dX3_clear_7 : decode cX3_clear 7 = .ok (.putfield 15, 3) := fqoD_181 rfl (by decide +kernel)
theorem dX3_clear_10 : decode cX3_clear 10 = .ok (.aload_n 0, 1) := fqoA_42 rfl (by decide +kernel)
theorem dX3_clear_11 : decode cX3_clear 11 = .ok (.iconst 0, 1) := fqoA_3 rfl (by decide +kernel)
theorem dX3_clear_12 : decode cX3_clear 12 = .ok (.putfield 18, 3) := fqoD_181 rfl (by decide +kernel)
theorem dX3_clear_15 : decode cX3_clear 15 = .ok (.aload_n 0, 1) := fqoA_42 rfl (by decide +kernel)
theorem dX3_clear_16 : decode cX3_clear 16 = .ok (.iconst 0, 1) := fqoA_3 rfl (by decide +kernel)
theorem dX3_clear_17 : decode cX3_clear 17 = .ok (.putfield 21, 3) := fqoD_181 rfl (by decide +kernel)
theorem dX3_clear_20 : decode cX3_clear 20 = .ok (.aload_n 0, 1) := fqoA_42 rfl (by decide +kernel)
theorem dX3_clear_21 : decode cX3_clear 21 = .ok (.iconst 0, 1) := fqoA_3 rfl (by decide +kernel)
theorem dX3_clear_22 : decode cX3_clear 22 = .ok (.putfield 24, 3) := fqoD_181 rfl (by decide +kernel)
theorem dX3_clear_25 : decode cX3_clear 25 = .ok (.iconst 0, 1) := fqoA_3 rfl (by decide +kernel)
theorem dX3_clear_26 : decode cX3_clear 26 = .ok (.istore_n 1, 1) := fqoA_60 rfl (by decide +kernel)
theorem dX3_clear_27 : decode cX3_clear 27 = .ok (.iload_n 1, 1) := fqoA_27 rfl (by decide +kernel)
theorem dX3_clear_28 : decode cX3_clear 28 = .ok (.iconst 5, 1) := fqoA_8 rfl (by decide +kernel)
theorem dX3_clear_29 : decode cX3_clear 29 = .ok (.if_icmp .ge 23, 3) := fqoE_162 rfl (by decide +kernel)
theorem dX3_clear_32 : decode cX3_clear 32 = .ok (.aload_n 0, 1) := fqoA_42 rfl (by decide +kernel)
theorem dX3_clear_33 : decode cX3_clear 33 = .ok (.getfield 43, 3) := fqoD_180 rfl (by decide +kernel)
theorem dX3_clear_36 : decode cX3_clear 36 = .ok (.iload_n 1, 1) := fqoA_27 rfl (by decide +kernel)
theorem dX3_clear_37 : decode cX3_clear 37 = .ok (.iconst 0, 1) := fqoA_3 rfl (by decide +kernel)
theorem dX3_clear_38 : decode cX3_clear 38 = .ok (.iastore, 1) := fqoA_79 rfl (by decide +kernel)
theorem dX3_clear_39 : decode cX3_clear 39 = .ok (.aload_n 0, 1) := fqoA_42 rfl (by decide +kernel)
theorem dX3_clear_40 : decode cX3_clear 40 = .ok (.getfield 46, 3) := fqoD_180 rfl (by decide +kernel)
theorem dX3_clear_43 : decode cX3_clear 43 = .ok (.iload_n 1, 1) := fqoA_27 rfl (by decide +kernel)
theorem dX3_clear_44 : decode cX3_clear 44 = .ok (.iconst 0, 1) := fqoA_3 rfl (by decide +kernel)
theorem dX3_clear_45 : decode cX3_clear 45 = .ok (.iastore, 1) := fqoA_79 rfl (by decide +kernel)
theorem dX3_clear_46 : decode cX3_clear 46 = .ok (.iinc 1 1, 3) := fqoF_132 rfl (by decide +kernel)
theorem dX3_clear_49 : decode cX3_clear 49 = .ok (.goto (-22), 3) := fqoE_167 rfl (by decide +kernel)
theorem dX3_clear_52 : decode cX3_clear 52 = .ok (.return_, 1) := fqoA_177 rfl (by decide +kernel)
theorem dX3_copyFrom_0 : decode cX3_copyFrom 0 = .ok (.aload_n 0, 1) := fqoA_42 rfl (by decide +kernel)
theorem dX3_copyFrom_1 : decode cX3_copyFrom 1 = .ok (.aload_n 1, 1) := fqoA_43 rfl (by decide +kernel)
theorem dX3_copyFrom_2 : decode cX3_copyFrom 2 = .ok (.getfield 9, 3) := fqoD_180 rfl (by decide +kernel)
theorem dX3_copyFrom_5 : decode cX3_copyFrom 5 = .ok (.putfield 9, 3) := fqoD_181 rfl (by decide +kernel)
theorem dX3_copyFrom_8 : decode cX3_copyFrom 8 = .ok (.aload_n 0, 1) := fqoA_42 rfl (by decide +kernel)
theorem dX3_copyFrom_9 : decode cX3_copyFrom 9 = .ok (.aload_n 1, 1) := fqoA_43 rfl (by decide +kernel)
theorem dX3_copyFrom_10 : decode cX3_copyFrom 10 = .ok (.getfield 15, 3) := fqoD_180 rfl (by decide +kernel)
theorem dX3_copyFrom_13 : decode cX3_copyFrom 13 = .ok (.putfield 15, 3) := fqoD_181 rfl (by decide +kernel)
theorem dX3_copyFrom_16 : decode cX3_copyFrom 16 = .ok (.aload_n 0, 1) := fqoA_42 rfl (by decide +kernel)
theorem dX3_copyFrom_17 : decode cX3_copyFrom 17 = .ok (.aload_n 1, 1) := fqoA_43 rfl (by decide +kernel)
theorem dX3_copyFrom_18 : decode cX3_copyFrom 18 = .ok (.getfield 18, 3) := fqoD_180 rfl (by decide +kernel)
theorem dX3_copyFrom_21 : decode cX3_copyFrom 21 = .ok (.putfield 18, 3) := fqoD_181 rfl (by decide +kernel)
theorem dX3_copyFrom_24 : decode cX3_copyFrom 24 = .ok (.aload_n 0, 1) := fqoA_42 rfl (by decide +kernel)
theorem dX3_copyFrom_25 : decode cX3_copyFrom 25 = .ok (.aload_n 1, 1) := fqoA_43 rfl (by decide +kernel)
theorem dX3_copyFrom_26 : decode cX3_copyFrom 26 = .ok (.getfield 21, 3) := fqoD_180 rfl (by decide +kernel)
theorem dX3_copyFrom_29 : decode cX3_copyFrom 29 = .ok (.putfield 21, 3) := fqoD_181 rfl (by decide +kernel)
theorem dX3_copyFrom_32 : decode cX3_copyFrom 32 = .ok (.aload_n 0, 1) := fqoA_42 rfl (by decide +kernel)
theorem dX3_copyFrom_33 : decode cX3_copyFrom 33 = .ok (.aload_n 1, 1) := fqoA_43 rfl (by decide +kernel)
theorem dX3_copyFrom_34 : decode cX3_copyFrom 34 = .ok (.getfield 24, 3) := fqoD_180 rfl (by decide +kernel)
theorem dX3_copyFrom_37 : decode cX3_copyFrom 37 = .ok (.putfield 24, 3) := fqoD_181 rfl (by decide +kernel)
theorem dX3_copyFrom_40 : decode cX3_copyFrom 40 = .ok (.aload_n 1, 1) := fqoA_43 rfl (by decide +kernel)
theorem dX3_copyFrom_41 : decode cX3_copyFrom 41 = .ok (.getfield 27, 3) := fqoD_180 rfl (by decide +kernel)
theorem dX3_copyFrom_44 : decode cX3_copyFrom 44 = .ok (.iconst 0, 1) := fqoA_3 rfl (by decide +kernel)
theorem dX3_copyFrom_45 : decode cX3_copyFrom 45 = .ok (.aload_n 0, 1) := fqoA_42 rfl (by decide +kernel)
theorem dX3_copyFrom_46 : decode cX3_copyFrom 46 = .ok (.getfield 27, 3) := fqoD_180 rfl (by decide +kernel)
theorem dX3_copyFrom_49 : decode cX3_copyFrom 49 = .ok (.iconst 0, 1) := fqoA_3 rfl (by decide +kernel)
theorem dX3_copyFrom_50 : decode cX3_copyFrom 50 = .ok (.iconst 5, 1) := fqoA_8 rfl (by decide +kernel)
theorem dX3_copyFrom_51 : decode cX3_copyFrom 51 = .ok (.invokestatic 64, 3) := fqoD_184 rfl (by decide +kernel)
theorem dX3_copyFrom_54 : decode cX3_copyFrom 54 = .ok (.aload_n 1, 1) := fqoA_43 rfl (by decide +kernel)
theorem dX3_copyFrom_55 : decode cX3_copyFrom 55 = .ok (.getfield 31, 3) := fqoD_180 rfl (by decide +kernel)
theorem dX3_copyFrom_58 : decode cX3_copyFrom 58 = .ok (.iconst 0, 1) := fqoA_3 rfl (by decide +kernel)
theorem dX3_copyFrom_59 : decode cX3_copyFrom 59 = .ok (.aload_n 0, 1) := fqoA_42 rfl (by decide +kernel)
theorem dX3_copyFrom_60 : decode cX3_copyFrom 60 = .ok (.getfield 31, 3) := fqoD_180 rfl (by decide +kernel)
theorem dX3_copyFrom_63 : decode cX3_copyFrom 63 = .ok (.iconst 0, 1) := fqoA_3 rfl (by decide +kernel)
theorem dX3_copyFrom_64 : decode cX3_copyFrom 64 = .ok (.iconst 5, 1) := fqoA_8 rfl (by decide +kernel)
theorem dX3_copyFrom_65 : decode cX3_copyFrom 65 = .ok (.invokestatic 64, 3) := fqoD_184 rfl (by decide +kernel)
theorem dX3_copyFrom_68 : decode cX3_copyFrom 68 = .ok (.aload_n 1, 1) := fqoA_43 rfl (by decide +kernel)
theorem dX3_copyFrom_69 : decode cX3_copyFrom 69 = .ok (.getfield 34, 3) := fqoD_180 rfl (by decide +kernel)
theorem dX3_copyFrom_72 : decode cX3_copyFrom 72 = .ok (.iconst 0, 1) := fqoA_3 rfl (by decide +kernel)
theorem dX3_copyFrom_73 : decode cX3_copyFrom 73 = .ok (.aload_n 0, 1) := fqoA_42 rfl (by decide +kernel)
theorem dX3_copyFrom_74 : decode cX3_copyFrom 74 = .ok (.getfield 34, 3) := fqoD_180 rfl (by decide +kernel)
theorem dX3_copyFrom_77 : decode cX3_copyFrom 77 = .ok (.iconst 0, 1) := fqoA_3 rfl (by decide +kernel)
theorem dX3_copyFrom_78 : decode cX3_copyFrom 78 = .ok (.iconst 5, 1) := fqoA_8 rfl (by decide +kernel)
theorem dX3_copyFrom_79 : decode cX3_copyFrom 79 = .ok (.invokestatic 64, 3) := fqoD_184 rfl (by decide +kernel)
theorem dX3_copyFrom_82 : decode cX3_copyFrom 82 = .ok (.aload_n 1, 1) := fqoA_43 rfl (by decide +kernel)
theorem dX3_copyFrom_83 : decode cX3_copyFrom 83 = .ok (.getfield 37, 3) := fqoD_180 rfl (by decide +kernel)
theorem dX3_copyFrom_86 : decode cX3_copyFrom 86 = .ok (.iconst 0, 1) := fqoA_3 rfl (by decide +kernel)
theorem dX3_copyFrom_87 : decode cX3_copyFrom 87 = .ok (.aload_n 0, 1) := fqoA_42 rfl (by decide +kernel)
theorem dX3_copyFrom_88 : decode cX3_copyFrom 88 = .ok (.getfield 37, 3) := fqoD_180 rfl (by decide +kernel)
theorem dX3_copyFrom_91 : decode cX3_copyFrom 91 = .ok (.iconst 0, 1) := fqoA_3 rfl (by decide +kernel)
theorem dX3_copyFrom_92 : decode cX3_copyFrom 92 = .ok (.iconst 5, 1) := fqoA_8 rfl (by decide +kernel)
theorem dX3_copyFrom_93 : decode cX3_copyFrom 93 = .ok (.invokestatic 64, 3) := fqoD_184 rfl (by decide +kernel)
theorem dX3_copyFrom_96 : decode cX3_copyFrom 96 = .ok (.aload_n 1, 1) := fqoA_43 rfl (by decide +kernel)
theorem dX3_copyFrom_97 : decode cX3_copyFrom 97 = .ok (.getfield 40, 3) := fqoD_180 rfl (by decide +kernel)
theorem dX3_copyFrom_100 : decode cX3_copyFrom 100 = .ok (.iconst 0, 1) := fqoA_3 rfl (by decide +kernel)
theorem dX3_copyFrom_101 : decode cX3_copyFrom 101 = .ok (.aload_n 0, 1) := fqoA_42 rfl (by decide +kernel)
theorem dX3_copyFrom_102 : decode cX3_copyFrom 102 = .ok (.getfield 40, 3) := fqoD_180 rfl (by decide +kernel)
theorem dX3_copyFrom_105 : decode cX3_copyFrom 105 = .ok (.iconst 0, 1) := fqoA_3 rfl (by decide +kernel)
theorem dX3_copyFrom_106 : decode cX3_copyFrom 106 = .ok (.iconst 5, 1) := fqoA_8 rfl (by decide +kernel)
theorem dX3_copyFrom_107 : decode cX3_copyFrom 107 = .ok (.invokestatic 64, 3) := fqoD_184 rfl (by decide +kernel)
theorem dX3_copyFrom_110 : decode cX3_copyFrom 110 = .ok (.aload_n 1, 1) := fqoA_43 rfl (by decide +kernel)
theorem dX3_copyFrom_111 : decode cX3_copyFrom 111 = .ok (.getfield 43, 3) := fqoD_180 rfl (by decide +kernel)
theorem dX3_copyFrom_114 : decode cX3_copyFrom 114 = .ok (.iconst 0, 1) := fqoA_3 rfl (by decide +kernel)
theorem dX3_copyFrom_115 : decode cX3_copyFrom 115 = .ok (.aload_n 0, 1) := fqoA_42 rfl (by decide +kernel)
theorem dX3_copyFrom_116 : decode cX3_copyFrom 116 = .ok (.getfield 43, 3) := fqoD_180 rfl (by decide +kernel)
theorem dX3_copyFrom_119 : decode cX3_copyFrom 119 = .ok (.iconst 0, 1) := fqoA_3 rfl (by decide +kernel)
theorem dX3_copyFrom_120 : decode cX3_copyFrom 120 = .ok (.iconst 5, 1) := fqoA_8 rfl (by decide +kernel)
theorem dX3_copyFrom_121 : decode cX3_copyFrom 121 = .ok (.invokestatic 64, 3) := fqoD_184 rfl (by decide +kernel)
theorem dX3_copyFrom_124 : decode cX3_copyFrom 124 = .ok (.aload_n 1, 1) := fqoA_43 rfl (by decide +kernel)
theorem dX3_copyFrom_125 : decode cX3_copyFrom 125 = .ok (.getfield 46, 3) := fqoD_180 rfl (by decide +kernel)
theorem dX3_copyFrom_128 : decode cX3_copyFrom 128 = .ok (.iconst 0, 1) := fqoA_3 rfl (by decide +kernel)
theorem dX3_copyFrom_129 : decode cX3_copyFrom 129 = .ok (.aload_n 0, 1) := fqoA_42 rfl (by decide +kernel)
theorem dX3_copyFrom_130 : decode cX3_copyFrom 130 = .ok (.getfield 46, 3) := fqoD_180 rfl (by decide +kernel)
theorem dX3_copyFrom_133 : decode cX3_copyFrom 133 = .ok (.iconst 0, 1) := fqoA_3 rfl (by decide +kernel)
theorem dX3_copyFrom_134 : decode cX3_copyFrom 134 = .ok (.iconst 5, 1) := fqoA_8 rfl (by decide +kernel)
theorem dX3_copyFrom_135 : decode cX3_copyFrom 135 = .ok (.invokestatic 64, 3) := fqoD_184 rfl (by decide +kernel)
theorem dX3_copyFrom_138 : decode cX3_copyFrom 138 = .ok (.aload_n 1, 1) := fqoA_43 rfl (by decide +kernel)
theorem dX3_copyFrom_139 : decode cX3_copyFrom 139 = .ok (.getfield 49, 3) := fqoD_180 rfl (by decide +kernel)
theorem dX3_copyFrom_142 : decode cX3_copyFrom 142 = .ok (.iconst 0, 1) := fqoA_3 rfl (by decide +kernel)
theorem dX3_copyFrom_143 : decode cX3_copyFrom 143 = .ok (.aload_n 0, 1) := fqoA_42 rfl (by decide +kernel)
theorem dX3_copyFrom_144 : decode cX3_copyFrom 144 = .ok (.getfield 49, 3) := fqoD_180 rfl (by decide +kernel)
theorem dX3_copyFrom_147 : decode cX3_copyFrom 147 = .ok (.iconst 0, 1) := fqoA_3 rfl (by decide +kernel)
theorem dX3_copyFrom_148 : decode cX3_copyFrom 148 = .ok (.bipush 30, 2) := fqoC_16 rfl (by decide +kernel)
theorem dX3_copyFrom_150 : decode cX3_copyFrom 150 = .ok (.invokestatic 64, 3) := fqoD_184 rfl (by decide +kernel)
theorem dX3_copyFrom_153 : decode cX3_copyFrom 153 = .ok (.aload_n 1, 1) := fqoA_43 rfl (by decide +kernel)
theorem dX3_copyFrom_154 : decode cX3_copyFrom 154 = .ok (.getfield 52, 3) := fqoD_180 rfl (by decide +kernel)
theorem dX3_copyFrom_157 : decode cX3_copyFrom 157 = .ok (.iconst 0, 1) := fqoA_3 rfl (by decide +kernel)
theorem dX3_copyFrom_158 : decode cX3_copyFrom 158 = .ok (.aload_n 0, 1) := fqoA_42 rfl (by decide +kernel)
theorem dX3_copyFrom_159 : decode cX3_copyFrom 159 = .ok (.getfield 52, 3) := fqoD_180 rfl (by decide +kernel)
theorem dX3_copyFrom_162 : decode cX3_copyFrom 162 = .ok (.iconst 0, 1) := fqoA_3 rfl (by decide +kernel)
theorem dX3_copyFrom_163 : decode cX3_copyFrom 163 = .ok (.bipush 30, 2) := fqoC_16 rfl (by decide +kernel)
theorem dX3_copyFrom_165 : decode cX3_copyFrom 165 = .ok (.invokestatic 64, 3) := fqoD_184 rfl (by decide +kernel)
theorem dX3_copyFrom_168 : decode cX3_copyFrom 168 = .ok (.aload_n 1, 1) := fqoA_43 rfl (by decide +kernel)
theorem dX3_copyFrom_169 : decode cX3_copyFrom 169 = .ok (.getfield 55, 3) := fqoD_180 rfl (by decide +kernel)
theorem dX3_copyFrom_172 : decode cX3_copyFrom 172 = .ok (.iconst 0, 1) := fqoA_3 rfl (by decide +kernel)
theorem dX3_copyFrom_173 : decode cX3_copyFrom 173 = .ok (.aload_n 0, 1) := fqoA_42 rfl (by decide +kernel)
theorem dX3_copyFrom_174 : decode cX3_copyFrom 174 = .ok (.getfield 55, 3) := fqoD_180 rfl (by decide +kernel)
theorem dX3_copyFrom_177 : decode cX3_copyFrom 177 = .ok (.iconst 0, 1) := fqoA_3 rfl (by decide +kernel)
theorem dX3_copyFrom_178 : decode cX3_copyFrom 178 = .ok (.bipush 10, 2) := fqoC_16 rfl (by decide +kernel)
theorem dX3_copyFrom_180 : decode cX3_copyFrom 180 = .ok (.invokestatic 64, 3) := fqoD_184 rfl (by decide +kernel)
theorem dX3_copyFrom_183 : decode cX3_copyFrom 183 = .ok (.aload_n 1, 1) := fqoA_43 rfl (by decide +kernel)
theorem dX3_copyFrom_184 : decode cX3_copyFrom 184 = .ok (.getfield 58, 3) := fqoD_180 rfl (by decide +kernel)
theorem dX3_copyFrom_187 : decode cX3_copyFrom 187 = .ok (.iconst 0, 1) := fqoA_3 rfl (by decide +kernel)
theorem dX3_copyFrom_188 : decode cX3_copyFrom 188 = .ok (.aload_n 0, 1) := fqoA_42 rfl (by decide +kernel)
theorem dX3_copyFrom_189 : decode cX3_copyFrom 189 = .ok (.getfield 58, 3) := fqoD_180 rfl (by decide +kernel)
theorem dX3_copyFrom_192 : decode cX3_copyFrom 192 = .ok (.iconst 0, 1) := fqoA_3 rfl (by decide +kernel)
theorem dX3_copyFrom_193 : decode cX3_copyFrom 193 = .ok (.bipush 10, 2) := fqoC_16 rfl (by decide +kernel)
theorem dX3_copyFrom_195 : decode cX3_copyFrom 195 = .ok (.invokestatic 64, 3) := fqoD_184 rfl (by decide +kernel)
theorem dX3_copyFrom_198 : decode cX3_copyFrom 198 = .ok (.aload_n 1, 1) := fqoA_43 rfl (by decide +kernel)
theorem dX3_copyFrom_199 : decode cX3_copyFrom 199 = .ok (.getfield 61, 3) := fqoD_180 rfl (by decide +kernel)
theorem dX3_copyFrom_202 : decode cX3_copyFrom 202 = .ok (.iconst 0, 1) := fqoA_3 rfl (by decide +kernel)
theorem dX3_copyFrom_203 : decode cX3_copyFrom 203 = .ok (.aload_n 0, 1) := fqoA_42 rfl (by decide +kernel)
theorem dX3_copyFrom_204 : decode cX3_copyFrom 204 = .ok (.getfield 61, 3) := fqoD_180 rfl (by decide +kernel)
theorem dX3_copyFrom_207 : decode cX3_copyFrom 207 = .ok (.iconst 0, 1) := fqoA_3 rfl (by decide +kernel)
theorem dX3_copyFrom_208 : decode cX3_copyFrom 208 = .ok (.bipush 10, 2) := fqoC_16 rfl (by decide +kernel)
theorem dX3_copyFrom_210 : decode cX3_copyFrom 210 = .ok (.invokestatic 64, 3) := fqoD_184 rfl (by decide +kernel)
theorem dX3_copyFrom_213 : decode cX3_copyFrom 213 = .ok (.return_, 1) := fqoA_177 rfl (by decide +kernel)
theorem dX3_lotOf_0 : decode cX3_lotOf 0 = .ok (.aload_n 0, 1) := fqoA_42 rfl (by decide +kernel)
theorem dX3_lotOf_1 : decode cX3_lotOf 1 = .ok (.getfield 31, 3) := fqoD_180 rfl (by decide +kernel)
theorem dX3_lotOf_4 : decode cX3_lotOf 4 = .ok (.iload_n 1, 1) := fqoA_27 rfl (by decide +kernel)
theorem dX3_lotOf_5 : decode cX3_lotOf 5 = .ok (.iaload, 1) := fqoA_46 rfl (by decide +kernel)
theorem dX3_lotOf_6 : decode cX3_lotOf 6 = .ok (.iconst 1, 1) := fqoA_4 rfl (by decide +kernel)
theorem dX3_lotOf_7 : decode cX3_lotOf 7 = .ok (.if_icmp .le 12, 3) := fqoE_164 rfl (by decide +kernel)
theorem dX3_lotOf_10 : decode cX3_lotOf 10 = .ok (.aload_n 0, 1) := fqoA_42 rfl (by decide +kernel)
theorem dX3_lotOf_11 : decode cX3_lotOf 11 = .ok (.getfield 31, 3) := fqoD_180 rfl (by decide +kernel)
theorem dX3_lotOf_14 : decode cX3_lotOf 14 = .ok (.iload_n 1, 1) := fqoA_27 rfl (by decide +kernel)
theorem dX3_lotOf_15 : decode cX3_lotOf 15 = .ok (.iaload, 1) := fqoA_46 rfl (by decide +kernel)
theorem dX3_lotOf_16 : decode cX3_lotOf 16 = .ok (.goto 4, 3) := fqoE_167 rfl (by decide +kernel)
theorem dX3_lotOf_19 : decode cX3_lotOf 19 = .ok (.iconst 1, 1) := fqoA_4 rfl (by decide +kernel)
theorem dX3_lotOf_20 : decode cX3_lotOf 20 = .ok (.ireturn, 1) := fqoA_172 rfl (by decide +kernel)
theorem dX3_unitsUpTo_0 : decode cX3_unitsUpTo 0 = .ok (.iconst 0, 1) := fqoA_3 rfl (by decide +kernel)
theorem dX3_unitsUpTo_1 : decode cX3_unitsUpTo 1 = .ok (.istore_n 3, 1) := fqoA_62 rfl (by decide +kernel)
theorem dX3_unitsUpTo_2 : decode cX3_unitsUpTo 2 = .ok (.iload_n 1, 1) := fqoA_27 rfl (by decide +kernel)
theorem dX3_unitsUpTo_3 : decode cX3_unitsUpTo 3 = .ok (.bipush 6, 2) := fqoC_16 rfl (by decide +kernel)
theorem dX3_unitsUpTo_5 : decode cX3_unitsUpTo 5 = .ok (.imul, 1) := fqoA_104 rfl (by decide +kernel)
theorem dX3_unitsUpTo_6 : decode cX3_unitsUpTo 6 = .ok (.istore 4, 2) := fqoB_54 rfl (by decide +kernel)
theorem dX3_unitsUpTo_8 : decode cX3_unitsUpTo 8 = .ok (.iload 4, 2) := fqoB_21 rfl (by decide +kernel)
theorem dX3_unitsUpTo_10 : decode cX3_unitsUpTo 10 = .ok (.istore 5, 2) := fqoB_54 rfl (by decide +kernel)
theorem dX3_unitsUpTo_12 : decode cX3_unitsUpTo 12 = .ok (.iload 5, 2) := fqoB_21 rfl (by decide +kernel)
theorem dX3_unitsUpTo_14 : decode cX3_unitsUpTo 14 = .ok (.iload 4, 2) := fqoB_21 rfl (by decide +kernel)
theorem dX3_unitsUpTo_16 : decode cX3_unitsUpTo 16 = .ok (.aload_n 0, 1) := fqoA_42 rfl (by decide +kernel)
theorem dX3_unitsUpTo_17 : decode cX3_unitsUpTo 17 = .ok (.getfield 43, 3) := fqoD_180 rfl (by decide +kernel)
theorem dX3_unitsUpTo_20 : decode cX3_unitsUpTo 20 = .ok (.iload_n 1, 1) := fqoA_27 rfl (by decide +kernel)
theorem dX3_unitsUpTo_21 : decode cX3_unitsUpTo 21 = .ok (.iaload, 1) := fqoA_46 rfl (by decide +kernel)
theorem dX3_unitsUpTo_22 : decode cX3_unitsUpTo 22 = .ok (.iadd, 1) := fqoA_96 rfl (by decide +kernel)
theorem dX3_unitsUpTo_23 : decode cX3_unitsUpTo 23 = .ok (.if_icmp .ge 30, 3) := fqoE_162 rfl (by decide +kernel)
theorem dX3_unitsUpTo_26 : decode cX3_unitsUpTo 26 = .ok (.aload_n 0, 1) := fqoA_42 rfl (by decide +kernel)
theorem dX3_unitsUpTo_27 : decode cX3_unitsUpTo 27 = .ok (.getfield 49, 3) := fqoD_180 rfl (by decide +kernel)
theorem dX3_unitsUpTo_30 : decode cX3_unitsUpTo 30 = .ok (.iload 5, 2) := fqoB_21 rfl (by decide +kernel)
theorem dX3_unitsUpTo_32 : decode cX3_unitsUpTo 32 = .ok (.iaload, 1) := fqoA_46 rfl (by decide +kernel)
theorem dX3_unitsUpTo_33 : decode cX3_unitsUpTo 33 = .ok (.iload_n 2, 1) := fqoA_28 rfl (by decide +kernel)
theorem dX3_unitsUpTo_34 : decode cX3_unitsUpTo 34 = .ok (.if_icmp .gt 13, 3) := fqoE_163 rfl (by decide +kernel)
theorem dX3_unitsUpTo_37 : decode cX3_unitsUpTo 37 = .ok (.iload_n 3, 1) := fqoA_29 rfl (by decide +kernel)
theorem dX3_unitsUpTo_38 : decode cX3_unitsUpTo 38 = .ok (.aload_n 0, 1) := fqoA_42 rfl (by decide +kernel)
theorem dX3_unitsUpTo_39 : decode cX3_unitsUpTo 39 = .ok (.getfield 52, 3) := fqoD_180 rfl (by decide +kernel)
theorem dX3_unitsUpTo_42 : decode cX3_unitsUpTo 42 = .ok (.iload 5, 2) := fqoB_21 rfl (by decide +kernel)
theorem dX3_unitsUpTo_44 : decode cX3_unitsUpTo 44 = .ok (.iaload, 1) := fqoA_46 rfl (by decide +kernel)
theorem dX3_unitsUpTo_45 : decode cX3_unitsUpTo 45 = .ok (.iadd, 1) := fqoA_96 rfl (by decide +kernel)
theorem dX3_unitsUpTo_46 : decode cX3_unitsUpTo 46 = .ok (.istore_n 3, 1) := fqoA_62 rfl (by decide +kernel)
theorem dX3_unitsUpTo_47 : decode cX3_unitsUpTo 47 = .ok (.iinc 5 1, 3) := fqoF_132 rfl (by decide +kernel)
theorem dX3_unitsUpTo_50 : decode cX3_unitsUpTo 50 = .ok (.goto (-38), 3) := fqoE_167 rfl (by decide +kernel)
theorem dX3_unitsUpTo_53 : decode cX3_unitsUpTo 53 = .ok (.iload_n 3, 1) := fqoA_29 rfl (by decide +kernel)
theorem dX3_unitsUpTo_54 : decode cX3_unitsUpTo 54 = .ok (.ireturn, 1) := fqoA_172 rfl (by decide +kernel)
theorem dX3_depthOf_0 : decode cX3_depthOf 0 = .ok (.aload_n 0, 1) := fqoA_42 rfl (by decide +kernel)
theorem dX3_depthOf_1 : decode cX3_depthOf 1 = .ok (.iload_n 1, 1) := fqoA_27 rfl (by decide +kernel)
theorem dX3_depthOf_2 : decode cX3_depthOf 2 = .ok (.aload_n 0, 1) := fqoA_42 rfl (by decide +kernel)
theorem dX3_depthOf_3 : decode cX3_depthOf 3 = .ok (.getfield 15, 3) := fqoD_180 rfl (by decide +kernel)
theorem dX3_depthOf_6 : decode cX3_depthOf 6 = .ok (.invokevirtual 70, 3) := fqoD_182 rfl (by decide +kernel)
theorem dX3_depthOf_9 : decode cX3_depthOf 9 = .ok (.ireturn, 1) := fqoA_172 rfl (by decide +kernel)
theorem dX3_wholeLots_0 : decode cX3_wholeLots 0 = .ok (.aload_n 0, 1) := fqoA_42 rfl (by decide +kernel)
theorem dX3_wholeLots_1 : decode cX3_wholeLots 1 = .ok (.iload_n 1, 1) := fqoA_27 rfl (by decide +kernel)
theorem dX3_wholeLots_2 : decode cX3_wholeLots 2 = .ok (.aload_n 0, 1) := fqoA_42 rfl (by decide +kernel)
theorem dX3_wholeLots_3 : decode cX3_wholeLots 3 = .ok (.getfield 15, 3) := fqoD_180 rfl (by decide +kernel)
theorem dX3_wholeLots_6 : decode cX3_wholeLots 6 = .ok (.invokevirtual 70, 3) := fqoD_182 rfl (by decide +kernel)
theorem dX3_wholeLots_9 : decode cX3_wholeLots 9 = .ok (.istore_n 3, 1) := fqoA_62 rfl (by decide +kernel)
theorem dX3_wholeLots_10 : decode cX3_wholeLots 10 = .ok (.iload_n 3, 1) := fqoA_29 rfl (by decide +kernel)
theorem dX3_wholeLots_11 : decode cX3_wholeLots 11 = .ok (.iload_n 2, 1) := fqoA_28 rfl (by decide +kernel)
theorem dX3_wholeLots_12 : decode cX3_wholeLots 12 = .ok (.if_icmp .ge 7, 3) := fqoE_162 rfl (by decide +kernel)
theorem dX3_wholeLots_15 : decode cX3_wholeLots 15 = .ok (.iload_n 3, 1) := fqoA_29 rfl (by decide +kernel)
theorem dX3_wholeLots_16 : decode cX3_wholeLots 16 = .ok (.goto 4, 3) := fqoE_167 rfl (by decide +kernel)
theorem dX3_wholeLots_19 : decode cX3_wholeLots 19 = .ok (.iload_n 2, 1) := fqoA_28 rfl (by decide +kernel)
theorem dX3_wholeLots_20 : decode cX3_wholeLots 20 = .ok (.istore 4, 2) := fqoB_54 rfl (by decide +kernel)
theorem dX3_wholeLots_22 : decode cX3_wholeLots 22 = .ok (.iload 4, 2) := fqoB_21 rfl (by decide +kernel)
theorem dX3_wholeLots_24 : decode cX3_wholeLots 24 = .ok (.iload 4, 2) := fqoB_21 rfl (by decide +kernel)
theorem dX3_wholeLots_26 : decode cX3_wholeLots 26 = .ok (.aload_n 0, 1) := fqoA_42 rfl (by decide +kernel)
theorem dX3_wholeLots_27 : decode cX3_wholeLots 27 = .ok (.iload_n 1, 1) := fqoA_27 rfl (by decide +kernel)
theorem dX3_wholeLots_28 : decode cX3_wholeLots 28 = .ok (.invokevirtual 74, 3) := fqoD_182 rfl (by decide +kernel)
theorem dX3_wholeLots_31 : decode cX3_wholeLots 31 = .ok (.irem, 1) := fqoA_112 rfl (by decide +kernel)
theorem dX3_wholeLots_32 : decode cX3_wholeLots 32 = .ok (.isub, 1) := fqoA_100 rfl (by decide +kernel)
theorem dX3_wholeLots_33 : decode cX3_wholeLots 33 = .ok (.ireturn, 1) := fqoA_172 rfl (by decide +kernel)
theorem dX3_hasLotWithin_0 : decode cX3_hasLotWithin 0 = .ok (.iconst 0, 1) := fqoA_3 rfl (by decide +kernel)
theorem dX3_hasLotWithin_1 : decode cX3_hasLotWithin 1 = .ok (.istore_n 2, 1) := fqoA_61 rfl (by decide +kernel)
theorem dX3_hasLotWithin_2 : decode cX3_hasLotWithin 2 = .ok (.iload_n 2, 1) := fqoA_28 rfl (by decide +kernel)
theorem dX3_hasLotWithin_3 : decode cX3_hasLotWithin 3 = .ok (.aload_n 0, 1) := fqoA_42 rfl (by decide +kernel)
theorem dX3_hasLotWithin_4 : decode cX3_hasLotWithin 4 = .ok (.getfield 21, 3) := fqoD_180 rfl (by decide +kernel)
theorem dX3_hasLotWithin_7 : decode cX3_hasLotWithin 7 = .ok (.if_icmp .ge 20, 3) := fqoE_162 rfl (by decide +kernel)
theorem dX3_hasLotWithin_10 : decode cX3_hasLotWithin 10 = .ok (.aload_n 0, 1) := fqoA_42 rfl (by decide +kernel)
theorem dX3_hasLotWithin_11 : decode cX3_hasLotWithin 11 = .ok (.iload_n 2, 1) := fqoA_28 rfl (by decide +kernel)
theorem dX3_hasLotWithin_12 : decode cX3_hasLotWithin 12 = .ok (.iload_n 1, 1) := fqoA_27 rfl (by decide +kernel)
theorem dX3_hasLotWithin_13 : decode cX3_hasLotWithin 13 = .ok (.invokevirtual 78, 3) := fqoD_182 rfl (by decide +kernel)
theorem dX3_hasLotWithin_16 : decode cX3_hasLotWithin 16 = .ok (.ifCond .le 5, 3) := fqoE_158 rfl (by decide +kernel)
theorem dX3_hasLotWithin_19 : decode cX3_hasLotWithin 19 = .ok (.iconst 1, 1) := fqoA_4 rfl (by decide +kernel)
theorem dX3_hasLotWithin_20 : decode cX3_hasLotWithin 20 = .ok (.ireturn, 1) := fqoA_172 rfl (by decide +kernel)
theorem dX3_hasLotWithin_21 : decode cX3_hasLotWithin 21 = .ok (.iinc 2 1, 3) := fqoF_132 rfl (by decide +kernel)
theorem dX3_hasLotWithin_24 : decode cX3_hasLotWithin 24 = .ok (.goto (-22), 3) := fqoE_167 rfl (by decide +kernel)
theorem dX3_hasLotWithin_27 : decode cX3_hasLotWithin 27 = .ok (.iconst 0, 1) := fqoA_3 rfl (by decide +kernel)
theorem dX3_hasLotWithin_28 : decode cX3_hasLotWithin 28 = .ok (.ireturn, 1) := fqoA_172 rfl (by decide +kernel)
theorem dX3_chargeOf_0 : decode cX3_chargeOf 0 = .ok (.iload_n 2, 1) := fqoA_28 rfl (by decide +kernel)
theorem dX3_chargeOf_1 : decode cX3_chargeOf 1 = .ok (.ifCond .gt 5, 3) := fqoE_157 rfl (by decide +kernel)
theorem dX3_chargeOf_4 : decode cX3_chargeOf 4 = .ok (.iconst 0, 1) := fqoA_3 rfl (by decide +kernel)
theorem dX3_chargeOf_5 : decode cX3_chargeOf 5 = .ok (.ireturn, 1) := fqoA_172 rfl (by decide +kernel)
theorem dX3_chargeOf_6 : decode cX3_chargeOf 6 = .ok (.aload_n 0, 1) := fqoA_42 rfl (by decide +kernel)
theorem dX3_chargeOf_7 : decode cX3_chargeOf 7 = .ok (.getfield 27, 3) := fqoD_180 rfl (by decide +kernel)
theorem dX3_chargeOf_10 : decode cX3_chargeOf 10 = .ok (.iload_n 1, 1) := fqoA_27 rfl (by decide +kernel)
theorem dX3_chargeOf_11 : decode cX3_chargeOf 11 = .ok (.iaload, 1) := fqoA_46 rfl (by decide +kernel)
theorem dX3_chargeOf_12 : decode cX3_chargeOf 12 = .ok (.iconst 2, 1) := fqoA_5 rfl (by decide +kernel)
theorem dX3_chargeOf_13 : decode cX3_chargeOf 13 = .ok (.if_icmp .ne 10, 3) := fqoE_160 rfl (by decide +kernel)
theorem dX3_chargeOf_16 : decode cX3_chargeOf 16 = .ok (.aload_n 0, 1) := fqoA_42 rfl (by decide +kernel)
theorem dX3_chargeOf_17 : decode cX3_chargeOf 17 = .ok (.getfield 37, 3) := fqoD_180 rfl (by decide +kernel)
theorem dX3_chargeOf_20 : decode cX3_chargeOf 20 = .ok (.iload_n 1, 1) := fqoA_27 rfl (by decide +kernel)
theorem dX3_chargeOf_21 : decode cX3_chargeOf 21 = .ok (.iaload, 1) := fqoA_46 rfl (by decide +kernel)
theorem dX3_chargeOf_22 : decode cX3_chargeOf 22 = .ok (.ireturn, 1) := fqoA_172 rfl (by decide +kernel)
theorem dX3_chargeOf_23 : decode cX3_chargeOf 23 = .ok (.aload_n 0, 1) := fqoA_42 rfl (by decide +kernel)
theorem dX3_chargeOf_24 : decode cX3_chargeOf 24 = .ok (.getfield 34, 3) := fqoD_180 rfl (by decide +kernel)
theorem dX3_chargeOf_27 : decode cX3_chargeOf 27 = .ok (.iload_n 1, 1) := fqoA_27 rfl (by decide +kernel)
theorem dX3_chargeOf_28 : decode cX3_chargeOf 28 = .ok (.iaload, 1) := fqoA_46 rfl (by decide +kernel)
theorem dX3_chargeOf_29 : decode cX3_chargeOf 29 = .ok (.iload_n 2, 1) := fqoA_28 rfl (by decide +kernel)
theorem dX3_chargeOf_30 : decode cX3_chargeOf 30 = .ok (.imul, 1) := fqoA_104 rfl (by decide +kernel)
theorem dX3_chargeOf_31 : decode cX3_chargeOf 31 = .ok (.istore_n 3, 1) := fqoA_62 rfl (by decide +kernel)
theorem dX3_chargeOf_32 : decode cX3_chargeOf 32 = .ok (.aload_n 0, 1) := fqoA_42 rfl (by decide +kernel)
theorem dX3_chargeOf_33 : decode cX3_chargeOf 33 = .ok (.getfield 27, 3) := fqoD_180 rfl (by decide +kernel)
theorem dX3_chargeOf_36 : decode cX3_chargeOf 36 = .ok (.iload_n 1, 1) := fqoA_27 rfl (by decide +kernel)
theorem dX3_chargeOf_37 : decode cX3_chargeOf 37 = .ok (.iaload, 1) := fqoA_46 rfl (by decide +kernel)
theorem dX3_chargeOf_38 : decode cX3_chargeOf 38 = .ok (.iconst 1, 1) := fqoA_4 rfl (by decide +kernel)
theorem dX3_chargeOf_39 : decode cX3_chargeOf 39 = .ok (.if_icmp .ne 33, 3) := fqoE_160 rfl (by decide +kernel)
theorem dX3_chargeOf_42 : decode cX3_chargeOf 42 = .ok (.iload_n 2, 1) := fqoA_28 rfl (by decide +kernel)
theorem dX3_chargeOf_43 : decode cX3_chargeOf 43 = .ok (.bipush 20, 2) := fqoC_16 rfl (by decide +kernel)
theorem dX3_chargeOf_45 : decode cX3_chargeOf 45 = .ok (.if_icmp .le 27, 3) := fqoE_164 rfl (by decide +kernel)
theorem dX3_chargeOf_48 : decode cX3_chargeOf 48 = .ok (.aload_n 0, 1) := fqoA_42 rfl (by decide +kernel)
theorem dX3_chargeOf_49 : decode cX3_chargeOf 49 = .ok (.getfield 34, 3) := fqoD_180 rfl (by decide +kernel)
theorem dX3_chargeOf_52 : decode cX3_chargeOf 52 = .ok (.iload_n 1, 1) := fqoA_27 rfl (by decide +kernel)
theorem dX3_chargeOf_53 : decode cX3_chargeOf 53 = .ok (.iaload, 1) := fqoA_46 rfl (by decide +kernel)
theorem dX3_chargeOf_54 : decode cX3_chargeOf 54 = .ok (.bipush 20, 2) := fqoC_16 rfl (by decide +kernel)
theorem dX3_chargeOf_56 : decode cX3_chargeOf 56 = .ok (.imul, 1) := fqoA_104 rfl (by decide +kernel)
theorem dX3_chargeOf_57 : decode cX3_chargeOf 57 = .ok (.aload_n 0, 1) := fqoA_42 rfl (by decide +kernel)
theorem dX3_chargeOf_58 : decode cX3_chargeOf 58 = .ok (.getfield 34, 3) := fqoD_180 rfl (by decide +kernel)
theorem dX3_chargeOf_61 : decode cX3_chargeOf 61 = .ok (.iload_n 1, 1) := fqoA_27 rfl (by decide +kernel)
theorem dX3_chargeOf_62 : decode cX3_chargeOf 62 = .ok (.iaload, 1) := fqoA_46 rfl (by decide +kernel)
theorem dX3_chargeOf_63 : decode cX3_chargeOf 63 = .ok (.iconst 1, 1) := fqoA_4 rfl (by decide +kernel)
theorem dX3_chargeOf_64 : decode cX3_chargeOf 64 = .ok (.ishr, 1) := fqoA_122 rfl (by decide +kernel)
theorem dX3_chargeOf_65 : decode cX3_chargeOf 65 = .ok (.iload_n 2, 1) := fqoA_28 rfl (by decide +kernel)
theorem dX3_chargeOf_66 : decode cX3_chargeOf 66 = .ok (.bipush 20, 2) := fqoC_16 rfl (by decide +kernel)
theorem dX3_chargeOf_68 : decode cX3_chargeOf 68 = .ok (.isub, 1) := fqoA_100 rfl (by decide +kernel)
theorem dX3_chargeOf_69 : decode cX3_chargeOf 69 = .ok (.imul, 1) := fqoA_104 rfl (by decide +kernel)
theorem dX3_chargeOf_70 : decode cX3_chargeOf 70 = .ok (.iadd, 1) := fqoA_96 rfl (by decide +kernel)
theorem dX3_chargeOf_71 : decode cX3_chargeOf 71 = .ok (.istore_n 3, 1) := fqoA_62 rfl (by decide +kernel)
theorem dX3_chargeOf_72 : decode cX3_chargeOf 72 = .ok (.aload_n 0, 1) := fqoA_42 rfl (by decide +kernel)
theorem dX3_chargeOf_73 : decode cX3_chargeOf 73 = .ok (.getfield 34, 3) := fqoD_180 rfl (by decide +kernel)
theorem dX3_chargeOf_76 : decode cX3_chargeOf 76 = .ok (.iload_n 1, 1) := fqoA_27 rfl (by decide +kernel)
theorem dX3_chargeOf_77 : decode cX3_chargeOf 77 = .ok (.iaload, 1) := fqoA_46 rfl (by decide +kernel)
theorem dX3_chargeOf_78 : decode cX3_chargeOf 78 = .ok (.ifCond .lt 22, 3) := fqoE_155 rfl (by decide +kernel)
theorem dX3_chargeOf_81 : decode cX3_chargeOf 81 = .ok (.iload_n 3, 1) := fqoA_29 rfl (by decide +kernel)
theorem dX3_chargeOf_82 : decode cX3_chargeOf 82 = .ok (.aload_n 0, 1) := fqoA_42 rfl (by decide +kernel)
theorem dX3_chargeOf_83 : decode cX3_chargeOf 83 = .ok (.getfield 37, 3) := fqoD_180 rfl (by decide +kernel)
theorem dX3_chargeOf_86 : decode cX3_chargeOf 86 = .ok (.iload_n 1, 1) := fqoA_27 rfl (by decide +kernel)
theorem dX3_chargeOf_87 : decode cX3_chargeOf 87 = .ok (.iaload, 1) := fqoA_46 rfl (by decide +kernel)
theorem dX3_chargeOf_88 : decode cX3_chargeOf 88 = .ok (.if_icmp .ge 12, 3) := fqoE_162 rfl (by decide +kernel)
theorem dX3_chargeOf_91 : decode cX3_chargeOf 91 = .ok (.aload_n 0, 1) := fqoA_42 rfl (by decide +kernel)
theorem dX3_chargeOf_92 : decode cX3_chargeOf 92 = .ok (.getfield 37, 3) := fqoD_180 rfl (by decide +kernel)
theorem dX3_chargeOf_95 : decode cX3_chargeOf 95 = .ok (.iload_n 1, 1) := fqoA_27 rfl (by decide +kernel)
theorem dX3_chargeOf_96 : decode cX3_chargeOf 96 = .ok (.iaload, 1) := fqoA_46 rfl (by decide +kernel)
theorem dX3_chargeOf_97 : decode cX3_chargeOf 97 = .ok (.goto 4, 3) := fqoE_167 rfl (by decide +kernel)
theorem dX3_chargeOf_100 : decode cX3_chargeOf 100 = .ok (.iload_n 3, 1) := fqoA_29 rfl (by decide +kernel)
theorem dX3_chargeOf_101 : decode cX3_chargeOf 101 = .ok (.ireturn, 1) := fqoA_172 rfl (by decide +kernel)
theorem dX3_leastUnitFee_0 : decode cX3_leastUnitFee 0 = .ok (.aload_n 0, 1) := fqoA_42 rfl (by decide +kernel)
theorem dX3_leastUnitFee_1 : decode cX3_leastUnitFee 1 = .ok (.getfield 27, 3) := fqoD_180 rfl (by decide +kernel)
theorem dX3_leastUnitFee_4 : decode cX3_leastUnitFee 4 = .ok (.iload_n 1, 1) := fqoA_27 rfl (by decide +kernel)
theorem dX3_leastUnitFee_5 : decode cX3_leastUnitFee 5 = .ok (.iaload, 1) := fqoA_46 rfl (by decide +kernel)
theorem dX3_leastUnitFee_6 : decode cX3_leastUnitFee 6 = .ok (.iconst 2, 1) := fqoA_5 rfl (by decide +kernel)
theorem dX3_leastUnitFee_7 : decode cX3_leastUnitFee 7 = .ok (.if_icmp .ne 5, 3) := fqoE_160 rfl (by decide +kernel)
theorem dX3_leastUnitFee_10 : decode cX3_leastUnitFee 10 = .ok (.iconst 0, 1) := fqoA_3 rfl (by decide +kernel)
theorem dX3_leastUnitFee_11 : decode cX3_leastUnitFee 11 = .ok (.ireturn, 1) := fqoA_172 rfl (by decide +kernel)
theorem dX3_leastUnitFee_12 : decode cX3_leastUnitFee 12 = .ok (.aload_n 0, 1) := fqoA_42 rfl (by decide +kernel)
theorem dX3_leastUnitFee_13 : decode cX3_leastUnitFee 13 = .ok (.getfield 34, 3) := fqoD_180 rfl (by decide +kernel)
theorem dX3_leastUnitFee_16 : decode cX3_leastUnitFee 16 = .ok (.iload_n 1, 1) := fqoA_27 rfl (by decide +kernel)
theorem dX3_leastUnitFee_17 : decode cX3_leastUnitFee 17 = .ok (.iaload, 1) := fqoA_46 rfl (by decide +kernel)
theorem dX3_leastUnitFee_18 : decode cX3_leastUnitFee 18 = .ok (.iconst 1, 1) := fqoA_4 rfl (by decide +kernel)
theorem dX3_leastUnitFee_19 : decode cX3_leastUnitFee 19 = .ok (.ishr, 1) := fqoA_122 rfl (by decide +kernel)
theorem dX3_leastUnitFee_20 : decode cX3_leastUnitFee 20 = .ok (.istore_n 2, 1) := fqoA_61 rfl (by decide +kernel)
theorem dX3_leastUnitFee_21 : decode cX3_leastUnitFee 21 = .ok (.aload_n 0, 1) := fqoA_42 rfl (by decide +kernel)
theorem dX3_leastUnitFee_22 : decode cX3_leastUnitFee 22 = .ok (.getfield 27, 3) := fqoD_180 rfl (by decide +kernel)
theorem dX3_leastUnitFee_25 : decode cX3_leastUnitFee 25 = .ok (.iload_n 1, 1) := fqoA_27 rfl (by decide +kernel)
theorem dX3_leastUnitFee_26 : decode cX3_leastUnitFee 26 = .ok (.iaload, 1) := fqoA_46 rfl (by decide +kernel)
theorem dX3_leastUnitFee_27 : decode cX3_leastUnitFee 27 = .ok (.iconst 1, 1) := fqoA_4 rfl (by decide +kernel)
theorem dX3_leastUnitFee_28 : decode cX3_leastUnitFee 28 = .ok (.if_icmp .ne 17, 3) := fqoE_160 rfl (by decide +kernel)
theorem dX3_leastUnitFee_31 : decode cX3_leastUnitFee 31 = .ok (.iload_n 2, 1) := fqoA_28 rfl (by decide +kernel)
theorem dX3_leastUnitFee_32 : decode cX3_leastUnitFee 32 = .ok (.aload_n 0, 1) := fqoA_42 rfl (by decide +kernel)
theorem dX3_leastUnitFee_33 : decode cX3_leastUnitFee 33 = .ok (.getfield 34, 3) := fqoD_180 rfl (by decide +kernel)
theorem dX3_leastUnitFee_36 : decode cX3_leastUnitFee 36 = .ok (.iload_n 1, 1) := fqoA_27 rfl (by decide +kernel)
theorem dX3_leastUnitFee_37 : decode cX3_leastUnitFee 37 = .ok (.iaload, 1) := fqoA_46 rfl (by decide +kernel)
theorem dX3_leastUnitFee_38 : decode cX3_leastUnitFee 38 = .ok (.if_icmp .ge 7, 3) := fqoE_162 rfl (by decide +kernel)
theorem dX3_leastUnitFee_41 : decode cX3_leastUnitFee 41 = .ok (.iload_n 2, 1) := fqoA_28 rfl (by decide +kernel)
theorem dX3_leastUnitFee_42 : decode cX3_leastUnitFee 42 = .ok (.goto 9, 3) := fqoE_167 rfl (by decide +kernel)
theorem dX3_leastUnitFee_45 : decode cX3_leastUnitFee 45 = .ok (.aload_n 0, 1) := fqoA_42 rfl (by decide +kernel)
theorem dX3_leastUnitFee_46 : decode cX3_leastUnitFee 46 = .ok (.getfield 34, 3) := fqoD_180 rfl (by decide +kernel)
theorem dX3_leastUnitFee_49 : decode cX3_leastUnitFee 49 = .ok (.iload_n 1, 1) := fqoA_27 rfl (by decide +kernel)
theorem dX3_leastUnitFee_50 : decode cX3_leastUnitFee 50 = .ok (.iaload, 1) := fqoA_46 rfl (by decide +kernel)
theorem dX3_leastUnitFee_51 : decode cX3_leastUnitFee 51 = .ok (.ireturn, 1) := fqoA_172 rfl (by decide +kernel)
theorem dX3_canBeHad_0 : decode cX3_canBeHad 0 = .ok (.iload_n 2, 1) := fqoA_28 rfl (by decide +kernel)
theorem dX3_canBeHad_1 : decode cX3_canBeHad 1 = .ok (.ifCond .lt 32, 3) := fqoE_155 rfl (by decide +kernel)
theorem dX3_canBeHad_4 : decode cX3_canBeHad 4 = .ok (.iload_n 2, 1) := fqoA_28 rfl (by decide +kernel)
theorem dX3_canBeHad_5 : decode cX3_canBeHad 5 = .ok (.bipush 120, 2) := fqoC_16 rfl (by decide +kernel)
theorem dX3_canBeHad_7 : decode cX3_canBeHad 7 = .ok (.if_icmp .gt 26, 3) := fqoE_163 rfl (by decide +kernel)
theorem dX3_canBeHad_10 : decode cX3_canBeHad 10 = .ok (.iload_n 2, 1) := fqoA_28 rfl (by decide +kernel)
theorem dX3_canBeHad_11 : decode cX3_canBeHad 11 = .ok (.aload_n 0, 1) := fqoA_42 rfl (by decide +kernel)
theorem dX3_canBeHad_12 : decode cX3_canBeHad 12 = .ok (.iload_n 1, 1) := fqoA_27 rfl (by decide +kernel)
theorem dX3_canBeHad_13 : decode cX3_canBeHad 13 = .ok (.invokevirtual 74, 3) := fqoD_182 rfl (by decide +kernel)
theorem dX3_canBeHad_16 : decode cX3_canBeHad 16 = .ok (.irem, 1) := fqoA_112 rfl (by decide +kernel)
theorem dX3_canBeHad_17 : decode cX3_canBeHad 17 = .ok (.ifCond .ne 16, 3) := fqoE_154 rfl (by decide +kernel)
theorem dX3_canBeHad_20 : decode cX3_canBeHad 20 = .ok (.iload_n 2, 1) := fqoA_28 rfl (by decide +kernel)
theorem dX3_canBeHad_21 : decode cX3_canBeHad 21 = .ok (.aload_n 0, 1) := fqoA_42 rfl (by decide +kernel)
theorem dX3_canBeHad_22 : decode cX3_canBeHad 22 = .ok (.iload_n 1, 1) := fqoA_27 rfl (by decide +kernel)
theorem dX3_canBeHad_23 : decode cX3_canBeHad 23 = .ok (.invokevirtual 81, 3) := fqoD_182 rfl (by decide +kernel)
theorem dX3_canBeHad_26 : decode cX3_canBeHad 26 = .ok (.if_icmp .gt 7, 3) := fqoE_163 rfl (by decide +kernel)
theorem dX3_canBeHad_29 : decode cX3_canBeHad 29 = .ok (.iconst 1, 1) := fqoA_4 rfl (by decide +kernel)
theorem dX3_canBeHad_30 : decode cX3_canBeHad 30 = .ok (.goto 4, 3) := fqoE_167 rfl (by decide +kernel)
theorem dX3_canBeHad_33 : decode cX3_canBeHad 33 = .ok (.iconst 0, 1) := fqoA_3 rfl (by decide +kernel)
theorem dX3_canBeHad_34 : decode cX3_canBeHad 34 = .ok (.ireturn, 1) := fqoA_172 rfl (by decide +kernel)
theorem dX3_costOf_0 : decode cX3_costOf 0 = .ok (.aload_n 0, 1) := fqoA_42 rfl (by decide +kernel)
theorem dX3_costOf_1 : decode cX3_costOf 1 = .ok (.iload_n 1, 1) := fqoA_27 rfl (by decide +kernel)
theorem dX3_costOf_2 : decode cX3_costOf 2 = .ok (.iload_n 2, 1) := fqoA_28 rfl (by decide +kernel)
theorem dX3_costOf_3 : decode cX3_costOf 3 = .ok (.invokevirtual 84, 3) := fqoD_182 rfl (by decide +kernel)
theorem dX3_costOf_6 : decode cX3_costOf 6 = .ok (.istore_n 3, 1) := fqoA_62 rfl (by decide +kernel)
theorem dX3_costOf_7 : decode cX3_costOf 7 = .ok (.iload_n 2, 1) := fqoA_28 rfl (by decide +kernel)
theorem dX3_costOf_8 : decode cX3_costOf 8 = .ok (.istore 4, 2) := fqoB_54 rfl (by decide +kernel)
theorem dX3_costOf_10 : decode cX3_costOf 10 = .ok (.iload_n 1, 1) := fqoA_27 rfl (by decide +kernel)
theorem dX3_costOf_11 : decode cX3_costOf 11 = .ok (.bipush 6, 2) := fqoC_16 rfl (by decide +kernel)
theorem dX3_costOf_13 : decode cX3_costOf 13 = .ok (.imul, 1) := fqoA_104 rfl (by decide +kernel)
theorem dX3_costOf_14 : decode cX3_costOf 14 = .ok (.istore 5, 2) := fqoB_54 rfl (by decide +kernel)
theorem dX3_costOf_16 : decode cX3_costOf 16 = .ok (.iload 5, 2) := fqoB_21 rfl (by decide +kernel)
theorem dX3_costOf_18 : decode cX3_costOf 18 = .ok (.istore 6, 2) := fqoB_54 rfl (by decide +kernel)
theorem dX3_costOf_20 : decode cX3_costOf 20 = .ok (.iload 6, 2) := fqoB_21 rfl (by decide +kernel)
theorem dX3_costOf_22 : decode cX3_costOf 22 = .ok (.iload 5, 2) := fqoB_21 rfl (by decide +kernel)
theorem dX3_costOf_24 : decode cX3_costOf 24 = .ok (.aload_n 0, 1) := fqoA_42 rfl (by decide +kernel)
theorem dX3_costOf_25 : decode cX3_costOf 25 = .ok (.getfield 43, 3) := fqoD_180 rfl (by decide +kernel)
theorem dX3_costOf_28 : decode cX3_costOf 28 = .ok (.iload_n 1, 1) := fqoA_27 rfl (by decide +kernel)
theorem dX3_costOf_29 : decode cX3_costOf 29 = .ok (.iaload, 1) := fqoA_46 rfl (by decide +kernel)
theorem dX3_costOf_30 : decode cX3_costOf 30 = .ok (.iadd, 1) := fqoA_96 rfl (by decide +kernel)
theorem dX3_costOf_31 : decode cX3_costOf 31 = .ok (.if_icmp .ge 60, 3) := fqoE_162 rfl (by decide +kernel)
theorem dX3_costOf_34 : decode cX3_costOf 34 = .ok (.iload 4, 2) := fqoB_21 rfl (by decide +kernel)
theorem dX3_costOf_36 : decode cX3_costOf 36 = .ok (.ifCond .le 55, 3) := fqoE_158 rfl (by decide +kernel)
theorem dX3_costOf_39 : decode cX3_costOf 39 = .ok (.aload_n 0, 1) := fqoA_42 rfl (by decide +kernel)
theorem dX3_costOf_40 : decode cX3_costOf 40 = .ok (.getfield 52, 3) := fqoD_180 rfl (by decide +kernel)
theorem dX3_costOf_43 : decode cX3_costOf 43 = .ok (.iload 6, 2) := fqoB_21 rfl (by decide +kernel)
theorem dX3_costOf_45 : decode cX3_costOf 45 = .ok (.iaload, 1) := fqoA_46 rfl (by decide +kernel)
theorem dX3_costOf_46 : decode cX3_costOf 46 = .ok (.iload 4, 2) := fqoB_21 rfl (by decide +kernel)
theorem dX3_costOf_48 : decode cX3_costOf 48 = .ok (.if_icmp .ge 13, 3) := fqoE_162 rfl (by decide +kernel)
theorem dX3_costOf_51 : decode cX3_costOf 51 = .ok (.aload_n 0, 1) := fqoA_42 rfl (by decide +kernel)
theorem dX3_costOf_52 : decode cX3_costOf 52 = .ok (.getfield 52, 3) := fqoD_180 rfl (by decide +kernel)
theorem dX3_costOf_55 : decode cX3_costOf 55 = .ok (.iload 6, 2) := fqoB_21 rfl (by decide +kernel)
theorem dX3_costOf_57 : decode cX3_costOf 57 = .ok (.iaload, 1) := fqoA_46 rfl (by decide +kernel)
theorem dX3_costOf_58 : decode cX3_costOf 58 = .ok (.goto 5, 3) := fqoE_167 rfl (by decide +kernel)
theorem dX3_costOf_61 : decode cX3_costOf 61 = .ok (.iload 4, 2) := fqoB_21 rfl (by decide +kernel)
theorem dX3_costOf_63 : decode cX3_costOf 63 = .ok (.istore 7, 2) := fqoB_54 rfl (by decide +kernel)
theorem dX3_costOf_65 : decode cX3_costOf 65 = .ok (.iload_n 3, 1) := fqoA_29 rfl (by decide +kernel)
theorem dX3_costOf_66 : decode cX3_costOf 66 = .ok (.iload 7, 2) := fqoB_21 rfl (by decide +kernel)
theorem dX3_costOf_68 : decode cX3_costOf 68 = .ok (.aload_n 0, 1) := fqoA_42 rfl (by decide +kernel)
theorem dX3_costOf_69 : decode cX3_costOf 69 = .ok (.getfield 49, 3) := fqoD_180 rfl (by decide +kernel)
theorem dX3_costOf_72 : decode cX3_costOf 72 = .ok (.iload 6, 2) := fqoB_21 rfl (by decide +kernel)
theorem dX3_costOf_74 : decode cX3_costOf 74 = .ok (.iaload, 1) := fqoA_46 rfl (by decide +kernel)
theorem dX3_costOf_75 : decode cX3_costOf 75 = .ok (.imul, 1) := fqoA_104 rfl (by decide +kernel)
theorem dX3_costOf_76 : decode cX3_costOf 76 = .ok (.iadd, 1) := fqoA_96 rfl (by decide +kernel)
theorem dX3_costOf_77 : decode cX3_costOf 77 = .ok (.istore_n 3, 1) := fqoA_62 rfl (by decide +kernel)
theorem dX3_costOf_78 : decode cX3_costOf 78 = .ok (.iload 4, 2) := fqoB_21 rfl (by decide +kernel)
theorem dX3_costOf_80 : decode cX3_costOf 80 = .ok (.iload 7, 2) := fqoB_21 rfl (by decide +kernel)
theorem dX3_costOf_82 : decode cX3_costOf 82 = .ok (.isub, 1) := fqoA_100 rfl (by decide +kernel)
theorem dX3_costOf_83 : decode cX3_costOf 83 = .ok (.istore 4, 2) := fqoB_54 rfl (by decide +kernel)
theorem dX3_costOf_85 : decode cX3_costOf 85 = .ok (.iinc 6 1, 3) := fqoF_132 rfl (by decide +kernel)
theorem dX3_costOf_88 : decode cX3_costOf 88 = .ok (.goto (-68), 3) := fqoE_167 rfl (by decide +kernel)
theorem dX3_costOf_91 : decode cX3_costOf 91 = .ok (.iload_n 3, 1) := fqoA_29 rfl (by decide +kernel)
theorem dX3_costOf_92 : decode cX3_costOf 92 = .ok (.ireturn, 1) := fqoA_172 rfl (by decide +kernel)
theorem dX3_capOf_0 : decode cX3_capOf 0 = .ok (.iconst 0, 1) := fqoA_3 rfl (by decide +kernel)
theorem dX3_capOf_1 : decode cX3_capOf 1 = .ok (.istore_n 3, 1) := fqoA_62 rfl (by decide +kernel)
theorem dX3_capOf_2 : decode cX3_capOf 2 = .ok (.iload_n 2, 1) := fqoA_28 rfl (by decide +kernel)
theorem dX3_capOf_3 : decode cX3_capOf 3 = .ok (.istore 4, 2) := fqoB_54 rfl (by decide +kernel)
theorem dX3_capOf_5 : decode cX3_capOf 5 = .ok (.iload_n 1, 1) := fqoA_27 rfl (by decide +kernel)
theorem dX3_capOf_6 : decode cX3_capOf 6 = .ok (.bipush 6, 2) := fqoC_16 rfl (by decide +kernel)
theorem dX3_capOf_8 : decode cX3_capOf 8 = .ok (.imul, 1) := fqoA_104 rfl (by decide +kernel)
theorem dX3_capOf_9 : decode cX3_capOf 9 = .ok (.istore 5, 2) := fqoB_54 rfl (by decide +kernel)
theorem dX3_capOf_11 : decode cX3_capOf 11 = .ok (.iload 5, 2) := fqoB_21 rfl (by decide +kernel)
theorem dX3_capOf_13 : decode cX3_capOf 13 = .ok (.istore 6, 2) := fqoB_54 rfl (by decide +kernel)
theorem dX3_capOf_15 : decode cX3_capOf 15 = .ok (.iload 6, 2) := fqoB_21 rfl (by decide +kernel)
theorem dX3_capOf_17 : decode cX3_capOf 17 = .ok (.iload 5, 2) := fqoB_21 rfl (by decide +kernel)
theorem dX3_capOf_19 : decode cX3_capOf 19 = .ok (.aload_n 0, 1) := fqoA_42 rfl (by decide +kernel)
theorem dX3_capOf_20 : decode cX3_capOf 20 = .ok (.getfield 43, 3) := fqoD_180 rfl (by decide +kernel)
theorem dX3_capOf_23 : decode cX3_capOf 23 = .ok (.iload_n 1, 1) := fqoA_27 rfl (by decide +kernel)
theorem dX3_capOf_24 : decode cX3_capOf 24 = .ok (.iaload, 1) := fqoA_46 rfl (by decide +kernel)
theorem dX3_capOf_25 : decode cX3_capOf 25 = .ok (.iadd, 1) := fqoA_96 rfl (by decide +kernel)
theorem dX3_capOf_26 : decode cX3_capOf 26 = .ok (.if_icmp .ge 44, 3) := fqoE_162 rfl (by decide +kernel)
theorem dX3_capOf_29 : decode cX3_capOf 29 = .ok (.iload 4, 2) := fqoB_21 rfl (by decide +kernel)
theorem dX3_capOf_31 : decode cX3_capOf 31 = .ok (.ifCond .le 39, 3) := fqoE_158 rfl (by decide +kernel)
theorem dX3_capOf_34 : decode cX3_capOf 34 = .ok (.aload_n 0, 1) := fqoA_42 rfl (by decide +kernel)
theorem dX3_capOf_35 : decode cX3_capOf 35 = .ok (.getfield 52, 3) := fqoD_180 rfl (by decide +kernel)
theorem dX3_capOf_38 : decode cX3_capOf 38 = .ok (.iload 6, 2) := fqoB_21 rfl (by decide +kernel)
theorem dX3_capOf_40 : decode cX3_capOf 40 = .ok (.iaload, 1) := fqoA_46 rfl (by decide +kernel)
theorem dX3_capOf_41 : decode cX3_capOf 41 = .ok (.ifCond .le 23, 3) := fqoE_158 rfl (by decide +kernel)
theorem dX3_capOf_44 : decode cX3_capOf 44 = .ok (.aload_n 0, 1) := fqoA_42 rfl (by decide +kernel)
theorem dX3_capOf_45 : decode cX3_capOf 45 = .ok (.getfield 49, 3) := fqoD_180 rfl (by decide +kernel)
theorem dX3_capOf_48 : decode cX3_capOf 48 = .ok (.iload 6, 2) := fqoB_21 rfl (by decide +kernel)
theorem dX3_capOf_50 : decode cX3_capOf 50 = .ok (.iaload, 1) := fqoA_46 rfl (by decide +kernel)
theorem dX3_capOf_51 : decode cX3_capOf 51 = .ok (.istore_n 3, 1) := fqoA_62 rfl (by decide +kernel)
theorem dX3_capOf_52 : decode cX3_capOf 52 = .ok (.iload 4, 2) := fqoB_21 rfl (by decide +kernel)
theorem dX3_capOf_54 : decode cX3_capOf 54 = .ok (.aload_n 0, 1) := fqoA_42 rfl (by decide +kernel)
theorem dX3_capOf_55 : decode cX3_capOf 55 = .ok (.getfield 52, 3) := fqoD_180 rfl (by decide +kernel)
theorem dX3_capOf_58 : decode cX3_capOf 58 = .ok (.iload 6, 2) := fqoB_21 rfl (by decide +kernel)
theorem dX3_capOf_60 : decode cX3_capOf 60 = .ok (.iaload, 1) := fqoA_46 rfl (by decide +kernel)
theorem dX3_capOf_61 : decode cX3_capOf 61 = .ok (.isub, 1) := fqoA_100 rfl (by decide +kernel)
theorem dX3_capOf_62 : decode cX3_capOf 62 = .ok (.istore 4, 2) := fqoB_54 rfl (by decide +kernel)
theorem dX3_capOf_64 : decode cX3_capOf 64 = .ok (.iinc 6 1, 3) := fqoF_132 rfl (by decide +kernel)
theorem dX3_capOf_67 : decode cX3_capOf 67 = .ok (.goto (-52), 3) := fqoE_167 rfl (by decide +kernel)
theorem dX3_capOf_70 : decode cX3_capOf 70 = .ok (.iload_n 3, 1) := fqoA_29 rfl (by decide +kernel)
theorem dX3_capOf_71 : decode cX3_capOf 71 = .ok (.ireturn, 1) := fqoA_172 rfl (by decide +kernel)
theorem dX3_planUnits_0 : decode cX3_planUnits 0 = .ok (.iconst 0, 1) := fqoA_3 rfl (by decide +kernel)
theorem dX3_planUnits_1 : decode cX3_planUnits 1 = .ok (.istore_n 1, 1) := fqoA_60 rfl (by decide +kernel)
theorem dX3_planUnits_2 : decode cX3_planUnits 2 = .ok (.iconst 0, 1) := fqoA_3 rfl (by decide +kernel)
theorem dX3_planUnits_3 : decode cX3_planUnits 3 = .ok (.istore_n 2, 1) := fqoA_61 rfl (by decide +kernel)
theorem dX3_planUnits_4 : decode cX3_planUnits 4 = .ok (.iload_n 2, 1) := fqoA_28 rfl (by decide +kernel)
theorem dX3_planUnits_5 : decode cX3_planUnits 5 = .ok (.aload_n 0, 1) := fqoA_42 rfl (by decide +kernel)
theorem dX3_planUnits_6 : decode cX3_planUnits 6 = .ok (.getfield 21, 3) := fqoD_180 rfl (by decide +kernel)
theorem dX3_planUnits_9 : decode cX3_planUnits 9 = .ok (.if_icmp .ge 18, 3) := fqoE_162 rfl (by decide +kernel)
theorem dX3_planUnits_12 : decode cX3_planUnits 12 = .ok (.iload_n 1, 1) := fqoA_27 rfl (by decide +kernel)
theorem dX3_planUnits_13 : decode cX3_planUnits 13 = .ok (.aload_n 0, 1) := fqoA_42 rfl (by decide +kernel)
theorem dX3_planUnits_14 : decode cX3_planUnits 14 = .ok (.getfield 46, 3) := fqoD_180 rfl (by decide +kernel)
theorem dX3_planUnits_17 : decode cX3_planUnits 17 = .ok (.iload_n 2, 1) := fqoA_28 rfl (by decide +kernel)
theorem dX3_planUnits_18 : decode cX3_planUnits 18 = .ok (.iaload, 1) := fqoA_46 rfl (by decide +kernel)
theorem dX3_planUnits_19 : decode cX3_planUnits 19 = .ok (.iadd, 1) := fqoA_96 rfl (by decide +kernel)
theorem dX3_planUnits_20 : decode cX3_planUnits 20 = .ok (.istore_n 1, 1) := fqoA_60 rfl (by decide +kernel)
theorem dX3_planUnits_21 : decode cX3_planUnits 21 = .ok (.iinc 2 1, 3) := fqoF_132 rfl (by decide +kernel)
theorem dX3_planUnits_24 : decode cX3_planUnits 24 = .ok (.goto (-20), 3) := fqoE_167 rfl (by decide +kernel)
theorem dX3_planUnits_27 : decode cX3_planUnits 27 = .ok (.iload_n 1, 1) := fqoA_27 rfl (by decide +kernel)
theorem dX3_planUnits_28 : decode cX3_planUnits 28 = .ok (.ireturn, 1) := fqoA_172 rfl (by decide +kernel)
theorem dX3_planCost_0 : decode cX3_planCost 0 = .ok (.iconst 0, 1) := fqoA_3 rfl (by decide +kernel)
theorem dX3_planCost_1 : decode cX3_planCost 1 = .ok (.istore_n 1, 1) := fqoA_60 rfl (by decide +kernel)
theorem dX3_planCost_2 : decode cX3_planCost 2 = .ok (.iconst 0, 1) := fqoA_3 rfl (by decide +kernel)
theorem dX3_planCost_3 : decode cX3_planCost 3 = .ok (.istore_n 2, 1) := fqoA_61 rfl (by decide +kernel)
theorem dX3_planCost_4 : decode cX3_planCost 4 = .ok (.iload_n 2, 1) := fqoA_28 rfl (by decide +kernel)
theorem dX3_planCost_5 : decode cX3_planCost 5 = .ok (.aload_n 0, 1) := fqoA_42 rfl (by decide +kernel)
theorem dX3_planCost_6 : decode cX3_planCost 6 = .ok (.getfield 21, 3) := fqoD_180 rfl (by decide +kernel)
theorem dX3_planCost_9 : decode cX3_planCost 9 = .ok (.if_icmp .ge 23, 3) := fqoE_162 rfl (by decide +kernel)
theorem dX3_planCost_12 : decode cX3_planCost 12 = .ok (.iload_n 1, 1) := fqoA_27 rfl (by decide +kernel)
theorem dX3_planCost_13 : decode cX3_planCost 13 = .ok (.aload_n 0, 1) := fqoA_42 rfl (by decide +kernel)
theorem dX3_planCost_14 : decode cX3_planCost 14 = .ok (.iload_n 2, 1) := fqoA_28 rfl (by decide +kernel)
theorem dX3_planCost_15 : decode cX3_planCost 15 = .ok (.aload_n 0, 1) := fqoA_42 rfl (by decide +kernel)
theorem dX3_planCost_16 : decode cX3_planCost 16 = .ok (.getfield 46, 3) := fqoD_180 rfl (by decide +kernel)
theorem dX3_planCost_19 : decode cX3_planCost 19 = .ok (.iload_n 2, 1) := fqoA_28 rfl (by decide +kernel)
theorem dX3_planCost_20 : decode cX3_planCost 20 = .ok (.iaload, 1) := fqoA_46 rfl (by decide +kernel)
theorem dX3_planCost_21 : decode cX3_planCost 21 = .ok (.invokevirtual 87, 3) := fqoD_182 rfl (by decide +kernel)
theorem dX3_planCost_24 : decode cX3_planCost 24 = .ok (.iadd, 1) := fqoA_96 rfl (by decide +kernel)
theorem dX3_planCost_25 : decode cX3_planCost 25 = .ok (.istore_n 1, 1) := fqoA_60 rfl (by decide +kernel)
theorem dX3_planCost_26 : decode cX3_planCost 26 = .ok (.iinc 2 1, 3) := fqoF_132 rfl (by decide +kernel)
theorem dX3_planCost_29 : decode cX3_planCost 29 = .ok (.goto (-25), 3) := fqoE_167 rfl (by decide +kernel)
theorem dX3_planCost_32 : decode cX3_planCost 32 = .ok (.iload_n 1, 1) := fqoA_27 rfl (by decide +kernel)
theorem dX3_planCost_33 : decode cX3_planCost 33 = .ok (.ireturn, 1) := fqoA_172 rfl (by decide +kernel)
theorem dX3_canBePlanned_0 : decode cX3_canBePlanned 0 = .ok (.aload_n 0, 1) := fqoA_42 rfl (by decide +kernel)
theorem dX3_canBePlanned_1 : decode cX3_canBePlanned 1 = .ok (.iload_n 1, 1) := fqoA_27 rfl (by decide +kernel)
theorem dX3_canBePlanned_2 : decode cX3_canBePlanned 2 = .ok (.iload_n 2, 1) := fqoA_28 rfl (by decide +kernel)
theorem dX3_canBePlanned_3 : decode cX3_canBePlanned 3 = .ok (.invokevirtual 90, 3) := fqoD_182 rfl (by decide +kernel)
theorem dX3_canBePlanned_6 : decode cX3_canBePlanned 6 = .ok (.ifCond .eq 27, 3) := fqoE_153 rfl (by decide +kernel)
theorem dX3_canBePlanned_9 : decode cX3_canBePlanned 9 = .ok (.aload_n 0, 1) := fqoA_42 rfl (by decide +kernel)
theorem dX3_canBePlanned_10 : decode cX3_canBePlanned 10 = .ok (.invokevirtual 94, 3) := fqoD_182 rfl (by decide +kernel)
theorem dX3_canBePlanned_13 : decode cX3_canBePlanned 13 = .ok (.aload_n 0, 1) := fqoA_42 rfl (by decide +kernel)
theorem dX3_canBePlanned_14 : decode cX3_canBePlanned 14 = .ok (.getfield 46, 3) := fqoD_180 rfl (by decide +kernel)
theorem dX3_canBePlanned_17 : decode cX3_canBePlanned 17 = .ok (.iload_n 1, 1) := fqoA_27 rfl (by decide +kernel)
theorem dX3_canBePlanned_18 : decode cX3_canBePlanned 18 = .ok (.iaload, 1) := fqoA_46 rfl (by decide +kernel)
theorem dX3_canBePlanned_19 : decode cX3_canBePlanned 19 = .ok (.isub, 1) := fqoA_100 rfl (by decide +kernel)
theorem dX3_canBePlanned_20 : decode cX3_canBePlanned 20 = .ok (.iload_n 2, 1) := fqoA_28 rfl (by decide +kernel)
theorem dX3_canBePlanned_21 : decode cX3_canBePlanned 21 = .ok (.iadd, 1) := fqoA_96 rfl (by decide +kernel)
theorem dX3_canBePlanned_22 : decode cX3_canBePlanned 22 = .ok (.aload_n 0, 1) := fqoA_42 rfl (by decide +kernel)
theorem dX3_canBePlanned_23 : decode cX3_canBePlanned 23 = .ok (.getfield 9, 3) := fqoD_180 rfl (by decide +kernel)
theorem dX3_canBePlanned_26 : decode cX3_canBePlanned 26 = .ok (.if_icmp .gt 7, 3) := fqoE_163 rfl (by decide +kernel)
theorem dX3_canBePlanned_29 : decode cX3_canBePlanned 29 = .ok (.iconst 1, 1) := fqoA_4 rfl (by decide +kernel)
theorem dX3_canBePlanned_30 : decode cX3_canBePlanned 30 = .ok (.goto 4, 3) := fqoE_167 rfl (by decide +kernel)
theorem dX3_canBePlanned_33 : decode cX3_canBePlanned 33 = .ok (.iconst 0, 1) := fqoA_3 rfl (by decide +kernel)
theorem dX3_canBePlanned_34 : decode cX3_canBePlanned 34 = .ok (.ireturn, 1) := fqoA_172 rfl (by decide +kernel)
theorem dX3_planStands_0 : decode cX3_planStands 0 = .ok (.iconst 0, 1) := fqoA_3 rfl (by decide +kernel)
theorem dX3_planStands_1 : decode cX3_planStands 1 = .ok (.istore_n 1, 1) := fqoA_60 rfl (by decide +kernel)
theorem dX3_planStands_2 : decode cX3_planStands 2 = .ok (.iload_n 1, 1) := fqoA_27 rfl (by decide +kernel)
theorem dX3_planStands_3 : decode cX3_planStands 3 = .ok (.aload_n 0, 1) := fqoA_42 rfl (by decide +kernel)
theorem dX3_planStands_4 : decode cX3_planStands 4 = .ok (.getfield 21, 3) := fqoD_180 rfl (by decide +kernel)
theorem dX3_planStands_7 : decode cX3_planStands 7 = .ok (.if_icmp .ge 25, 3) := fqoE_162 rfl (by decide +kernel)
theorem dX3_planStands_10 : decode cX3_planStands 10 = .ok (.aload_n 0, 1) := fqoA_42 rfl (by decide +kernel)
theorem dX3_planStands_11 : decode cX3_planStands 11 = .ok (.getfield 46, 3) := fqoD_180 rfl (by decide +kernel)
theorem dX3_planStands_14 : decode cX3_planStands 14 = .ok (.iload_n 1, 1) := fqoA_27 rfl (by decide +kernel)
theorem dX3_planStands_15 : decode cX3_planStands 15 = .ok (.iaload, 1) := fqoA_46 rfl (by decide +kernel)
theorem dX3_planStands_16 : decode cX3_planStands 16 = .ok (.aload_n 0, 1) := fqoA_42 rfl (by decide +kernel)
theorem dX3_planStands_17 : decode cX3_planStands 17 = .ok (.iload_n 1, 1) := fqoA_27 rfl (by decide +kernel)
theorem dX3_planStands_18 : decode cX3_planStands 18 = .ok (.invokevirtual 81, 3) := fqoD_182 rfl (by decide +kernel)
theorem dX3_planStands_21 : decode cX3_planStands 21 = .ok (.if_icmp .le 5, 3) := fqoE_164 rfl (by decide +kernel)
theorem dX3_planStands_24 : decode cX3_planStands 24 = .ok (.iconst 0, 1) := fqoA_3 rfl (by decide +kernel)
theorem dX3_planStands_25 : decode cX3_planStands 25 = .ok (.ireturn, 1) := fqoA_172 rfl (by decide +kernel)
theorem dX3_planStands_26 : decode cX3_planStands 26 = .ok (.iinc 1 1, 3) := fqoF_132 rfl (by decide +kernel)
theorem dX3_planStands_29 : decode cX3_planStands 29 = .ok (.goto (-27), 3) := fqoE_167 rfl (by decide +kernel)
theorem dX3_planStands_32 : decode cX3_planStands 32 = .ok (.aload_n 0, 1) := fqoA_42 rfl (by decide +kernel)
theorem dX3_planStands_33 : decode cX3_planStands 33 = .ok (.invokevirtual 94, 3) := fqoD_182 rfl (by decide +kernel)
theorem dX3_planStands_36 : decode cX3_planStands 36 = .ok (.aload_n 0, 1) := fqoA_42 rfl (by decide +kernel)
theorem dX3_planStands_37 : decode cX3_planStands 37 = .ok (.getfield 9, 3) := fqoD_180 rfl (by decide +kernel)
theorem dX3_planStands_40 : decode cX3_planStands 40 = .ok (.if_icmp .gt 7, 3) := fqoE_163 rfl (by decide +kernel)
theorem dX3_planStands_43 : decode cX3_planStands 43 = .ok (.iconst 1, 1) := fqoA_4 rfl (by decide +kernel)
theorem dX3_planStands_44 : decode cX3_planStands 44 = .ok (.goto 4, 3) := fqoE_167 rfl (by decide +kernel)
theorem dX3_planStands_47 : decode cX3_planStands 47 = .ok (.iconst 0, 1) := fqoA_3 rfl (by decide +kernel)
theorem dX3_planStands_48 : decode cX3_planStands 48 = .ok (.ireturn, 1) := fqoA_172 rfl (by decide +kernel)
theorem dX3_moveCost_0 : decode cX3_moveCost 0 = .ok (.iload_n 1, 1) := fqoA_27 rfl (by decide +kernel)
theorem dX3_moveCost_1 : decode cX3_moveCost 1 = .ok (.iload_n 2, 1) := fqoA_28 rfl (by decide +kernel)
theorem dX3_moveCost_2 : decode cX3_moveCost 2 = .ok (.if_icmp .ne 5, 3) := fqoE_160 rfl (by decide +kernel)
theorem dX3_moveCost_5 : decode cX3_moveCost 5 = .ok (.iconst 0, 1) := fqoA_3 rfl (by decide +kernel)
theorem dX3_moveCost_6 : decode cX3_moveCost 6 = .ok (.ireturn, 1) := fqoA_172 rfl (by decide +kernel)
theorem dX3_moveCost_7 : decode cX3_moveCost 7 = .ok (.aload_n 0, 1) := fqoA_42 rfl (by decide +kernel)
theorem dX3_moveCost_8 : decode cX3_moveCost 8 = .ok (.iload_n 1, 1) := fqoA_27 rfl (by decide +kernel)
theorem dX3_moveCost_9 : decode cX3_moveCost 9 = .ok (.invokevirtual 74, 3) := fqoD_182 rfl (by decide +kernel)
theorem dX3_moveCost_12 : decode cX3_moveCost 12 = .ok (.aload_n 0, 1) := fqoA_42 rfl (by decide +kernel)
theorem dX3_moveCost_13 : decode cX3_moveCost 13 = .ok (.iload_n 2, 1) := fqoA_28 rfl (by decide +kernel)
theorem dX3_moveCost_14 : decode cX3_moveCost 14 = .ok (.invokevirtual 74, 3) := fqoD_182 rfl (by decide +kernel)
theorem dX3_moveCost_17 : decode cX3_moveCost 17 = .ok (.invokestatic 98, 3) := fqoD_184 rfl (by decide +kernel)
theorem dX3_moveCost_20 : decode cX3_moveCost 20 = .ok (.istore_n 3, 1) := fqoA_62 rfl (by decide +kernel)
theorem dX3_moveCost_21 : decode cX3_moveCost 21 = .ok (.aload_n 0, 1) := fqoA_42 rfl (by decide +kernel)
theorem dX3_moveCost_22 : decode cX3_moveCost 22 = .ok (.getfield 46, 3) := fqoD_180 rfl (by decide +kernel)
theorem dX3_moveCost_25 : decode cX3_moveCost 25 = .ok (.iload_n 1, 1) := fqoA_27 rfl (by decide +kernel)
theorem dX3_moveCost_26 : decode cX3_moveCost 26 = .ok (.iaload, 1) := fqoA_46 rfl (by decide +kernel)
theorem dX3_moveCost_27 : decode cX3_moveCost 27 = .ok (.iload_n 3, 1) := fqoA_29 rfl (by decide +kernel)
theorem dX3_moveCost_28 : decode cX3_moveCost 28 = .ok (.if_icmp .lt 19, 3) := fqoE_161 rfl (by decide +kernel)
theorem dX3_moveCost_31 : decode cX3_moveCost 31 = .ok (.aload_n 0, 1) := fqoA_42 rfl (by decide +kernel)
theorem dX3_moveCost_32 : decode cX3_moveCost 32 = .ok (.getfield 46, 3) := fqoD_180 rfl (by decide +kernel)
theorem dX3_moveCost_35 : decode cX3_moveCost 35 = .ok (.iload_n 2, 1) := fqoA_28 rfl (by decide +kernel)
theorem dX3_moveCost_36 : decode cX3_moveCost 36 = .ok (.iaload, 1) := fqoA_46 rfl (by decide +kernel)
theorem dX3_moveCost_37 : decode cX3_moveCost 37 = .ok (.iload_n 3, 1) := fqoA_29 rfl (by decide +kernel)
theorem dX3_moveCost_38 : decode cX3_moveCost 38 = .ok (.iadd, 1) := fqoA_96 rfl (by decide +kernel)
theorem dX3_moveCost_39 : decode cX3_moveCost 39 = .ok (.aload_n 0, 1) := fqoA_42 rfl (by decide +kernel)
theorem dX3_moveCost_40 : decode cX3_moveCost 40 = .ok (.iload_n 2, 1) := fqoA_28 rfl (by decide +kernel)
theorem dX3_moveCost_41 : decode cX3_moveCost 41 = .ok (.invokevirtual 81, 3) := fqoD_182 rfl (by decide +kernel)
theorem dX3_moveCost_44 : decode cX3_moveCost 44 = .ok (.if_icmp .le 5, 3) := fqoE_164 rfl (by decide +kernel)
theorem dX3_moveCost_47 : decode cX3_moveCost 47 = .ok (.iconst 0, 1) := fqoA_3 rfl (by decide +kernel)
theorem dX3_moveCost_48 : decode cX3_moveCost 48 = .ok (.ireturn, 1) := fqoA_172 rfl (by decide +kernel)
theorem dX3_moveCost_49 : decode cX3_moveCost 49 = .ok (.aload_n 0, 1) := fqoA_42 rfl (by decide +kernel)
theorem dX3_moveCost_50 : decode cX3_moveCost 50 = .ok (.iload_n 1, 1) := fqoA_27 rfl (by decide +kernel)
theorem dX3_moveCost_51 : decode cX3_moveCost 51 = .ok (.aload_n 0, 1) := fqoA_42 rfl (by decide +kernel)
theorem dX3_moveCost_52 : decode cX3_moveCost 52 = .ok (.getfield 46, 3) := fqoD_180 rfl (by decide +kernel)
theorem dX3_moveCost_55 : decode cX3_moveCost 55 = .ok (.iload_n 1, 1) := fqoA_27 rfl (by decide +kernel)
theorem dX3_moveCost_56 : decode cX3_moveCost 56 = .ok (.iaload, 1) := fqoA_46 rfl (by decide +kernel)
theorem dX3_moveCost_57 : decode cX3_moveCost 57 = .ok (.iload_n 3, 1) := fqoA_29 rfl (by decide +kernel)
theorem dX3_moveCost_58 : decode cX3_moveCost 58 = .ok (.isub, 1) := fqoA_100 rfl (by decide +kernel)
theorem dX3_moveCost_59 : decode cX3_moveCost 59 = .ok (.invokevirtual 87, 3) := fqoD_182 rfl (by decide +kernel)
theorem dX3_moveCost_62 : decode cX3_moveCost 62 = .ok (.aload_n 0, 1) := fqoA_42 rfl (by decide +kernel)
theorem dX3_moveCost_63 : decode cX3_moveCost 63 = .ok (.iload_n 1, 1) := fqoA_27 rfl (by decide +kernel)
theorem dX3_moveCost_64 : decode cX3_moveCost 64 = .ok (.aload_n 0, 1) := fqoA_42 rfl (by decide +kernel)
theorem dX3_moveCost_65 : decode cX3_moveCost 65 = .ok (.getfield 46, 3) := fqoD_180 rfl (by decide +kernel)
theorem dX3_moveCost_68 : decode cX3_moveCost 68 = .ok (.iload_n 1, 1) := fqoA_27 rfl (by decide +kernel)
theorem dX3_moveCost_69 : decode cX3_moveCost 69 = .ok (.iaload, 1) := fqoA_46 rfl (by decide +kernel)
theorem dX3_moveCost_70 : decode cX3_moveCost 70 = .ok (.invokevirtual 87, 3) := fqoD_182 rfl (by decide +kernel)
theorem dX3_moveCost_73 : decode cX3_moveCost 73 = .ok (.isub, 1) := fqoA_100 rfl (by decide +kernel)
theorem dX3_moveCost_74 : decode cX3_moveCost 74 = .ok (.aload_n 0, 1) := fqoA_42 rfl (by decide +kernel)
theorem dX3_moveCost_75 : decode cX3_moveCost 75 = .ok (.iload_n 2, 1) := fqoA_28 rfl (by decide +kernel)
theorem dX3_moveCost_76 : decode cX3_moveCost 76 = .ok (.aload_n 0, 1) := fqoA_42 rfl (by decide +kernel)
theorem dX3_moveCost_77 : decode cX3_moveCost 77 = .ok (.getfield 46, 3) := fqoD_180 rfl (by decide +kernel)
theorem dX3_moveCost_80 : decode cX3_moveCost 80 = .ok (.iload_n 2, 1) := fqoA_28 rfl (by decide +kernel)
theorem dX3_moveCost_81 : decode cX3_moveCost 81 = .ok (.iaload, 1) := fqoA_46 rfl (by decide +kernel)
theorem dX3_moveCost_82 : decode cX3_moveCost 82 = .ok (.iload_n 3, 1) := fqoA_29 rfl (by decide +kernel)
theorem dX3_moveCost_83 : decode cX3_moveCost 83 = .ok (.iadd, 1) := fqoA_96 rfl (by decide +kernel)
theorem dX3_moveCost_84 : decode cX3_moveCost 84 = .ok (.invokevirtual 87, 3) := fqoD_182 rfl (by decide +kernel)
theorem dX3_moveCost_87 : decode cX3_moveCost 87 = .ok (.iadd, 1) := fqoA_96 rfl (by decide +kernel)
theorem dX3_moveCost_88 : decode cX3_moveCost 88 = .ok (.aload_n 0, 1) := fqoA_42 rfl (by decide +kernel)
theorem dX3_moveCost_89 : decode cX3_moveCost 89 = .ok (.iload_n 2, 1) := fqoA_28 rfl (by decide +kernel)
theorem dX3_moveCost_90 : decode cX3_moveCost 90 = .ok (.aload_n 0, 1) := fqoA_42 rfl (by decide +kernel)
theorem dX3_moveCost_91 : decode cX3_moveCost 91 = .ok (.getfield 46, 3) := fqoD_180 rfl (by decide +kernel)
theorem dX3_moveCost_94 : decode cX3_moveCost 94 = .ok (.iload_n 2, 1) := fqoA_28 rfl (by decide +kernel)
theorem dX3_moveCost_95 : decode cX3_moveCost 95 = .ok (.iaload, 1) := fqoA_46 rfl (by decide +kernel)
theorem dX3_moveCost_96 : decode cX3_moveCost 96 = .ok (.invokevirtual 87, 3) := fqoD_182 rfl (by decide +kernel)
theorem dX3_moveCost_99 : decode cX3_moveCost 99 = .ok (.isub, 1) := fqoA_100 rfl (by decide +kernel)
theorem dX3_moveCost_100 : decode cX3_moveCost 100 = .ok (.ireturn, 1) := fqoA_172 rfl (by decide +kernel)
theorem dX3_leastCommonMultiple_0 : decode cX3_leastCommonMultiple 0 = .ok (.iload_n 1, 1) := fqoA_27 rfl (by decide +kernel)
theorem dX3_leastCommonMultiple_1 : decode cX3_leastCommonMultiple 1 = .ok (.ifCond .gt 5, 3) := fqoE_157 rfl (by decide +kernel)
theorem dX3_leastCommonMultiple_4 : decode cX3_leastCommonMultiple 4 = .ok (.iload_n 0, 1) := fqoA_26 rfl (by decide +kernel)
theorem dX3_leastCommonMultiple_5 : decode cX3_leastCommonMultiple 5 = .ok (.ireturn, 1) := fqoA_172 rfl (by decide +kernel)
theorem dX3_leastCommonMultiple_6 : decode cX3_leastCommonMultiple 6 = .ok (.iconst 1, 1) := fqoA_4 rfl (by decide +kernel)
theorem dX3_leastCommonMultiple_7 : decode cX3_leastCommonMultiple 7 = .ok (.istore_n 2, 1) := fqoA_61 rfl (by decide +kernel)
theorem dX3_leastCommonMultiple_8 : decode cX3_leastCommonMultiple 8 = .ok (.iload_n 2, 1) := fqoA_28 rfl (by decide +kernel)
theorem dX3_leastCommonMultiple_9 : decode cX3_leastCommonMultiple 9 = .ok (.iload_n 1, 1) := fqoA_27 rfl (by decide +kernel)
theorem dX3_leastCommonMultiple_10 : decode cX3_leastCommonMultiple 10 = .ok (.if_icmp .ge 21, 3) := fqoE_162 rfl (by decide +kernel)
theorem dX3_leastCommonMultiple_13 : decode cX3_leastCommonMultiple 13 = .ok (.iload_n 0, 1) := fqoA_26 rfl (by decide +kernel)
theorem dX3_leastCommonMultiple_14 : decode cX3_leastCommonMultiple 14 = .ok (.iload_n 2, 1) := fqoA_28 rfl (by decide +kernel)
theorem dX3_leastCommonMultiple_15 : decode cX3_leastCommonMultiple 15 = .ok (.imul, 1) := fqoA_104 rfl (by decide +kernel)
theorem dX3_leastCommonMultiple_16 : decode cX3_leastCommonMultiple 16 = .ok (.iload_n 1, 1) := fqoA_27 rfl (by decide +kernel)
theorem dX3_leastCommonMultiple_17 : decode cX3_leastCommonMultiple 17 = .ok (.irem, 1) := fqoA_112 rfl (by decide +kernel)
theorem dX3_leastCommonMultiple_18 : decode cX3_leastCommonMultiple 18 = .ok (.ifCond .ne 7, 3) := fqoE_154 rfl (by decide +kernel)
theorem dX3_leastCommonMultiple_21 : decode cX3_leastCommonMultiple 21 = .ok (.iload_n 0, 1) := fqoA_26 rfl (by decide +kernel)
theorem dX3_leastCommonMultiple_22 : decode cX3_leastCommonMultiple 22 = .ok (.iload_n 2, 1) := fqoA_28 rfl (by decide +kernel)
theorem dX3_leastCommonMultiple_23 : decode cX3_leastCommonMultiple 23 = .ok (.imul, 1) := fqoA_104 rfl (by decide +kernel)
theorem dX3_leastCommonMultiple_24 : decode cX3_leastCommonMultiple 24 = .ok (.ireturn, 1) := fqoA_172 rfl (by decide +kernel)
theorem dX3_leastCommonMultiple_25 : decode cX3_leastCommonMultiple 25 = .ok (.iinc 2 1, 3) := fqoF_132 rfl (by decide +kernel)
theorem dX3_leastCommonMultiple_28 : decode cX3_leastCommonMultiple 28 = .ok (.goto (-20), 3) := fqoE_167 rfl (by decide +kernel)
theorem dX3_leastCommonMultiple_31 : decode cX3_leastCommonMultiple 31 = .ok (.iload_n 0, 1) := fqoA_26 rfl (by decide +kernel)
theorem dX3_leastCommonMultiple_32 : decode cX3_leastCommonMultiple 32 = .ok (.iload_n 1, 1) := fqoA_27 rfl (by decide +kernel)
theorem dX3_leastCommonMultiple_33 : decode cX3_leastCommonMultiple 33 = .ok (.imul, 1) := fqoA_104 rfl (by decide +kernel)
theorem dX3_leastCommonMultiple_34 : decode cX3_leastCommonMultiple 34 = .ok (.ireturn, 1) := fqoA_172 rfl (by decide +kernel)
