/-! a small decoder of the instructions that occur here, and that it says what the decoder says -/
theorem dk_b {α β : Type} {x : Jvm.ClassFile.Decoder α} {f : α → Jvm.ClassFile.Decoder β} {c : ByteArray} {p p1 : Nat} {a : α} (h : x c p = .ok (a, p1)) : (x >>= f) c p = f a c p1 := by
  have e : (x >>= f) c p = Except.bind (x c p) (fun r => match r with | (a, s) => f a c s) := rfl
  rw [e, h]
  rfl
theorem dk_m {α β : Type} {x : Jvm.ClassFile.Decoder α} {g : α → β} {c : ByteArray} {p p1 : Nat} {a : α} (h : x c p = .ok (a, p1)) : (g <$> x) c p = .ok (g a, p1) := by
  have e : (g <$> x) c p = Except.bind (x c p) (fun r => match r with | (a, s) => Except.ok (g a, s)) := rfl
  rw [e, h]
  rfl
theorem dk_u1 {c : ByteArray} {p : Nat} {b : UInt8} (h : c.data[p]? = some b) : (Jvm.ClassFile.Reader.u1 : Jvm.ClassFile.Decoder Nat) c p = .ok (b.toNat, p + 1) := by
  obtain ⟨h1, h2⟩ := Array.getElem?_eq_some_iff.mp h
  have h3 : p < c.size := h1
  show (dite (p < c.size) (fun h => ((do set (p + 1); pure c[p].toNat) : Jvm.ClassFile.Decoder Nat)) (fun _ => throw (Jvm.ClassFile.HasTruncated.truncated p))) c p = _
  rw [dif_pos h3]
  show Except.ok (c[p].toNat, p + 1) = _
  have h4 : c[p] = b := h2
  rw [h4]
theorem dk_u1n {c : ByteArray} {p n : Nat} {b : UInt8} (hb : b.toNat = n) (h : c.data[p]? = some b) : (Jvm.ClassFile.Reader.u1 : Jvm.ClassFile.Decoder Nat) c p = .ok (n, p + 1) := by
  rw [← hb]
  exact dk_u1 h
theorem dk_u2 {c : ByteArray} {p : Nat} {b b1 : UInt8} (h : c.data[p]? = some b) (h1 : c.data[p + 1]? = some b1) : (Jvm.ClassFile.Reader.u2 : Jvm.ClassFile.Decoder Nat) c p = .ok (b.toNat * 256 + b1.toNat, p + 2) := by
  show ((Jvm.ClassFile.Reader.u1 : Jvm.ClassFile.Decoder Nat) >>= fun hi => (Jvm.ClassFile.Reader.u1 : Jvm.ClassFile.Decoder Nat) >>= fun lo => pure (hi * 256 + lo)) c p = _
  rw [dk_b (dk_u1 h), dk_b (dk_u1 h1)]
  rfl
theorem dk_d {c : ByteArray} {p n : Nat} {i : Instr} (h : (Jvm.ClassFile.Decoder.instr p) c p = .ok (i, p + n)) : decode c p = .ok (i, n) := by
  have e : decode c p = Except.bind ((Jvm.ClassFile.Decoder.instr p) c p) (fun r => match r with | (a, b) => Except.ok (a, b - p)) := rfl
  rw [e, h]
  show Except.ok (i, p + n - p) = _
  rw [Nat.add_sub_cancel_left]
set_option maxRecDepth 100000 in
theorem do_42 {c : ByteArray} {p : Nat} {b : UInt8} (hb : b.toNat = 42) (h : c.data[p]? = some b) : decode c p = .ok (.aload_n 0, 1) := by
  refine dk_d ?_
  unfold Jvm.ClassFile.Decoder.instr
  refine (dk_b (dk_u1n hb h)).trans ?_
  rfl
set_option maxRecDepth 100000 in
theorem do_177 {c : ByteArray} {p : Nat} {b : UInt8} (hb : b.toNat = 177) (h : c.data[p]? = some b) : decode c p = .ok (.return_, 1) := by
  refine dk_d ?_
  unfold Jvm.ClassFile.Decoder.instr
  refine (dk_b (dk_u1n hb h)).trans ?_
  rfl
set_option maxRecDepth 100000 in
theorem do_3 {c : ByteArray} {p : Nat} {b : UInt8} (hb : b.toNat = 3) (h : c.data[p]? = some b) : decode c p = .ok (.iconst 0, 1) := by
  refine dk_d ?_
  unfold Jvm.ClassFile.Decoder.instr
  refine (dk_b (dk_u1n hb h)).trans ?_
  rfl
set_option maxRecDepth 100000 in
theorem do_60 {c : ByteArray} {p : Nat} {b : UInt8} (hb : b.toNat = 60) (h : c.data[p]? = some b) : decode c p = .ok (.istore_n 1, 1) := by
  refine dk_d ?_
  unfold Jvm.ClassFile.Decoder.instr
  refine (dk_b (dk_u1n hb h)).trans ?_
  rfl
set_option maxRecDepth 100000 in
theorem do_27 {c : ByteArray} {p : Nat} {b : UInt8} (hb : b.toNat = 27) (h : c.data[p]? = some b) : decode c p = .ok (.iload_n 1, 1) := by
  refine dk_d ?_
  unfold Jvm.ClassFile.Decoder.instr
  refine (dk_b (dk_u1n hb h)).trans ?_
  rfl
set_option maxRecDepth 100000 in
theorem do_79 {c : ByteArray} {p : Nat} {b : UInt8} (hb : b.toNat = 79) (h : c.data[p]? = some b) : decode c p = .ok (.iastore, 1) := by
  refine dk_d ?_
  unfold Jvm.ClassFile.Decoder.instr
  refine (dk_b (dk_u1n hb h)).trans ?_
  rfl
set_option maxRecDepth 100000 in
theorem do_92 {c : ByteArray} {p : Nat} {b : UInt8} (hb : b.toNat = 92) (h : c.data[p]? = some b) : decode c p = .ok (.dup2, 1) := by
  refine dk_d ?_
  unfold Jvm.ClassFile.Decoder.instr
  refine (dk_b (dk_u1n hb h)).trans ?_
  rfl
set_option maxRecDepth 100000 in
theorem do_46 {c : ByteArray} {p : Nat} {b : UInt8} (hb : b.toNat = 46) (h : c.data[p]? = some b) : decode c p = .ok (.iaload, 1) := by
  refine dk_d ?_
  unfold Jvm.ClassFile.Decoder.instr
  refine (dk_b (dk_u1n hb h)).trans ?_
  rfl
set_option maxRecDepth 100000 in
theorem do_28 {c : ByteArray} {p : Nat} {b : UInt8} (hb : b.toNat = 28) (h : c.data[p]? = some b) : decode c p = .ok (.iload_n 2, 1) := by
  refine dk_d ?_
  unfold Jvm.ClassFile.Decoder.instr
  refine (dk_b (dk_u1n hb h)).trans ?_
  rfl
set_option maxRecDepth 100000 in
theorem do_96 {c : ByteArray} {p : Nat} {b : UInt8} (hb : b.toNat = 96) (h : c.data[p]? = some b) : decode c p = .ok (.iadd, 1) := by
  refine dk_d ?_
  unfold Jvm.ClassFile.Decoder.instr
  refine (dk_b (dk_u1n hb h)).trans ?_
  rfl
set_option maxRecDepth 100000 in
theorem do_61 {c : ByteArray} {p : Nat} {b : UInt8} (hb : b.toNat = 61) (h : c.data[p]? = some b) : decode c p = .ok (.istore_n 2, 1) := by
  refine dk_d ?_
  unfold Jvm.ClassFile.Decoder.instr
  refine (dk_b (dk_u1n hb h)).trans ?_
  rfl
set_option maxRecDepth 100000 in
theorem do_62 {c : ByteArray} {p : Nat} {b : UInt8} (hb : b.toNat = 62) (h : c.data[p]? = some b) : decode c p = .ok (.istore_n 3, 1) := by
  refine dk_d ?_
  unfold Jvm.ClassFile.Decoder.instr
  refine (dk_b (dk_u1n hb h)).trans ?_
  rfl
set_option maxRecDepth 100000 in
theorem do_29 {c : ByteArray} {p : Nat} {b : UInt8} (hb : b.toNat = 29) (h : c.data[p]? = some b) : decode c p = .ok (.iload_n 3, 1) := by
  refine dk_d ?_
  unfold Jvm.ClassFile.Decoder.instr
  refine (dk_b (dk_u1n hb h)).trans ?_
  rfl
set_option maxRecDepth 100000 in
theorem do_112 {c : ByteArray} {p : Nat} {b : UInt8} (hb : b.toNat = 112) (h : c.data[p]? = some b) : decode c p = .ok (.irem, 1) := by
  refine dk_d ?_
  unfold Jvm.ClassFile.Decoder.instr
  refine (dk_b (dk_u1n hb h)).trans ?_
  rfl
set_option maxRecDepth 100000 in
theorem do_108 {c : ByteArray} {p : Nat} {b : UInt8} (hb : b.toNat = 108) (h : c.data[p]? = some b) : decode c p = .ok (.idiv, 1) := by
  refine dk_d ?_
  unfold Jvm.ClassFile.Decoder.instr
  refine (dk_b (dk_u1n hb h)).trans ?_
  rfl
set_option maxRecDepth 100000 in
theorem do_104 {c : ByteArray} {p : Nat} {b : UInt8} (hb : b.toNat = 104) (h : c.data[p]? = some b) : decode c p = .ok (.imul, 1) := by
  refine dk_d ?_
  unfold Jvm.ClassFile.Decoder.instr
  refine (dk_b (dk_u1n hb h)).trans ?_
  rfl
set_option maxRecDepth 100000 in
theorem do_43 {c : ByteArray} {p : Nat} {b : UInt8} (hb : b.toNat = 43) (h : c.data[p]? = some b) : decode c p = .ok (.aload_n 1, 1) := by
  refine dk_d ?_
  unfold Jvm.ClassFile.Decoder.instr
  refine (dk_b (dk_u1n hb h)).trans ?_
  rfl
set_option maxRecDepth 100000 in
theorem do_172 {c : ByteArray} {p : Nat} {b : UInt8} (hb : b.toNat = 172) (h : c.data[p]? = some b) : decode c p = .ok (.ireturn, 1) := by
  refine dk_d ?_
  unfold Jvm.ClassFile.Decoder.instr
  refine (dk_b (dk_u1n hb h)).trans ?_
  rfl
set_option maxRecDepth 100000 in
theorem do_4 {c : ByteArray} {p : Nat} {b : UInt8} (hb : b.toNat = 4) (h : c.data[p]? = some b) : decode c p = .ok (.iconst 1, 1) := by
  refine dk_d ?_
  unfold Jvm.ClassFile.Decoder.instr
  refine (dk_b (dk_u1n hb h)).trans ?_
  rfl
set_option maxRecDepth 100000 in
theorem do_89 {c : ByteArray} {p : Nat} {b : UInt8} (hb : b.toNat = 89) (h : c.data[p]? = some b) : decode c p = .ok (.dup, 1) := by
  refine dk_d ?_
  unfold Jvm.ClassFile.Decoder.instr
  refine (dk_b (dk_u1n hb h)).trans ?_
  rfl
set_option maxRecDepth 100000 in
theorem do_77 {c : ByteArray} {p : Nat} {b : UInt8} (hb : b.toNat = 77) (h : c.data[p]? = some b) : decode c p = .ok (.astore_n 2, 1) := by
  refine dk_d ?_
  unfold Jvm.ClassFile.Decoder.instr
  refine (dk_b (dk_u1n hb h)).trans ?_
  rfl
set_option maxRecDepth 100000 in
theorem do_44 {c : ByteArray} {p : Nat} {b : UInt8} (hb : b.toNat = 44) (h : c.data[p]? = some b) : decode c p = .ok (.aload_n 2, 1) := by
  refine dk_d ?_
  unfold Jvm.ClassFile.Decoder.instr
  refine (dk_b (dk_u1n hb h)).trans ?_
  rfl
set_option maxRecDepth 100000 in
theorem do_87 {c : ByteArray} {p : Nat} {b : UInt8} (hb : b.toNat = 87) (h : c.data[p]? = some b) : decode c p = .ok (.pop, 1) := by
  refine dk_d ?_
  unfold Jvm.ClassFile.Decoder.instr
  refine (dk_b (dk_u1n hb h)).trans ?_
  rfl
set_option maxRecDepth 100000 in
theorem do_176 {c : ByteArray} {p : Nat} {b : UInt8} (hb : b.toNat = 176) (h : c.data[p]? = some b) : decode c p = .ok (.areturn, 1) := by
  refine dk_d ?_
  unfold Jvm.ClassFile.Decoder.instr
  refine (dk_b (dk_u1n hb h)).trans ?_
  rfl
set_option maxRecDepth 100000 in
theorem do_7 {c : ByteArray} {p : Nat} {b : UInt8} (hb : b.toNat = 7) (h : c.data[p]? = some b) : decode c p = .ok (.iconst 4, 1) := by
  refine dk_d ?_
  unfold Jvm.ClassFile.Decoder.instr
  refine (dk_b (dk_u1n hb h)).trans ?_
  rfl
set_option maxRecDepth 100000 in
theorem do_6 {c : ByteArray} {p : Nat} {b : UInt8} (hb : b.toNat = 6) (h : c.data[p]? = some b) : decode c p = .ok (.iconst 3, 1) := by
  refine dk_d ?_
  unfold Jvm.ClassFile.Decoder.instr
  refine (dk_b (dk_u1n hb h)).trans ?_
  rfl
set_option maxRecDepth 100000 in
theorem do_9 {c : ByteArray} {p : Nat} {b : UInt8} (hb : b.toNat = 9) (h : c.data[p]? = some b) : decode c p = .ok (.lconst 0, 1) := by
  refine dk_d ?_
  unfold Jvm.ClassFile.Decoder.instr
  refine (dk_b (dk_u1n hb h)).trans ?_
  rfl
set_option maxRecDepth 100000 in
theorem do_133 {c : ByteArray} {p : Nat} {b : UInt8} (hb : b.toNat = 133) (h : c.data[p]? = some b) : decode c p = .ok (.i2l, 1) := by
  refine dk_d ?_
  unfold Jvm.ClassFile.Decoder.instr
  refine (dk_b (dk_u1n hb h)).trans ?_
  rfl
set_option maxRecDepth 100000 in
theorem do_10 {c : ByteArray} {p : Nat} {b : UInt8} (hb : b.toNat = 10) (h : c.data[p]? = some b) : decode c p = .ok (.lconst 1, 1) := by
  refine dk_d ?_
  unfold Jvm.ClassFile.Decoder.instr
  refine (dk_b (dk_u1n hb h)).trans ?_
  rfl
set_option maxRecDepth 100000 in
theorem do_101 {c : ByteArray} {p : Nat} {b : UInt8} (hb : b.toNat = 101) (h : c.data[p]? = some b) : decode c p = .ok (.lsub, 1) := by
  refine dk_d ?_
  unfold Jvm.ClassFile.Decoder.instr
  refine (dk_b (dk_u1n hb h)).trans ?_
  rfl
set_option maxRecDepth 100000 in
theorem do_105 {c : ByteArray} {p : Nat} {b : UInt8} (hb : b.toNat = 105) (h : c.data[p]? = some b) : decode c p = .ok (.lmul, 1) := by
  refine dk_d ?_
  unfold Jvm.ClassFile.Decoder.instr
  refine (dk_b (dk_u1n hb h)).trans ?_
  rfl
set_option maxRecDepth 100000 in
theorem do_97 {c : ByteArray} {p : Nat} {b : UInt8} (hb : b.toNat = 97) (h : c.data[p]? = some b) : decode c p = .ok (.ladd, 1) := by
  refine dk_d ?_
  unfold Jvm.ClassFile.Decoder.instr
  refine (dk_b (dk_u1n hb h)).trans ?_
  rfl
set_option maxRecDepth 100000 in
theorem do_117 {c : ByteArray} {p : Nat} {b : UInt8} (hb : b.toNat = 117) (h : c.data[p]? = some b) : decode c p = .ok (.lneg, 1) := by
  refine dk_d ?_
  unfold Jvm.ClassFile.Decoder.instr
  refine (dk_b (dk_u1n hb h)).trans ?_
  rfl
set_option maxRecDepth 100000 in
theorem do_116 {c : ByteArray} {p : Nat} {b : UInt8} (hb : b.toNat = 116) (h : c.data[p]? = some b) : decode c p = .ok (.ineg, 1) := by
  refine dk_d ?_
  unfold Jvm.ClassFile.Decoder.instr
  refine (dk_b (dk_u1n hb h)).trans ?_
  rfl
set_option maxRecDepth 100000 in
theorem do_148 {c : ByteArray} {p : Nat} {b : UInt8} (hb : b.toNat = 148) (h : c.data[p]? = some b) : decode c p = .ok (.lcmp, 1) := by
  refine dk_d ?_
  unfold Jvm.ClassFile.Decoder.instr
  refine (dk_b (dk_u1n hb h)).trans ?_
  rfl
set_option maxRecDepth 100000 in
theorem do_113 {c : ByteArray} {p : Nat} {b : UInt8} (hb : b.toNat = 113) (h : c.data[p]? = some b) : decode c p = .ok (.lrem, 1) := by
  refine dk_d ?_
  unfold Jvm.ClassFile.Decoder.instr
  refine (dk_b (dk_u1n hb h)).trans ?_
  rfl
set_option maxRecDepth 100000 in
theorem do_109 {c : ByteArray} {p : Nat} {b : UInt8} (hb : b.toNat = 109) (h : c.data[p]? = some b) : decode c p = .ok (.ldiv, 1) := by
  refine dk_d ?_
  unfold Jvm.ClassFile.Decoder.instr
  refine (dk_b (dk_u1n hb h)).trans ?_
  rfl
set_option maxRecDepth 100000 in
theorem do_100 {c : ByteArray} {p : Nat} {b : UInt8} (hb : b.toNat = 100) (h : c.data[p]? = some b) : decode c p = .ok (.isub, 1) := by
  refine dk_d ?_
  unfold Jvm.ClassFile.Decoder.instr
  refine (dk_b (dk_u1n hb h)).trans ?_
  rfl
set_option maxRecDepth 100000 in
theorem do_2 {c : ByteArray} {p : Nat} {b : UInt8} (hb : b.toNat = 2) (h : c.data[p]? = some b) : decode c p = .ok (.iconst (-1), 1) := by
  refine dk_d ?_
  unfold Jvm.ClassFile.Decoder.instr
  refine (dk_b (dk_u1n hb h)).trans ?_
  rfl
set_option maxRecDepth 100000 in
theorem do_64 {c : ByteArray} {p : Nat} {b : UInt8} (hb : b.toNat = 64) (h : c.data[p]? = some b) : decode c p = .ok (.lstore_n 1, 1) := by
  refine dk_d ?_
  unfold Jvm.ClassFile.Decoder.instr
  refine (dk_b (dk_u1n hb h)).trans ?_
  rfl
set_option maxRecDepth 100000 in
theorem do_31 {c : ByteArray} {p : Nat} {b : UInt8} (hb : b.toNat = 31) (h : c.data[p]? = some b) : decode c p = .ok (.lload_n 1, 1) := by
  refine dk_d ?_
  unfold Jvm.ClassFile.Decoder.instr
  refine (dk_b (dk_u1n hb h)).trans ?_
  rfl
set_option maxRecDepth 100000 in
theorem do_173 {c : ByteArray} {p : Nat} {b : UInt8} (hb : b.toNat = 173) (h : c.data[p]? = some b) : decode c p = .ok (.lreturn, 1) := by
  refine dk_d ?_
  unfold Jvm.ClassFile.Decoder.instr
  refine (dk_b (dk_u1n hb h)).trans ?_
  rfl
set_option maxRecDepth 100000 in
theorem do_26 {c : ByteArray} {p : Nat} {b : UInt8} (hb : b.toNat = 26) (h : c.data[p]? = some b) : decode c p = .ok (.iload_n 0, 1) := by
  refine dk_d ?_
  unfold Jvm.ClassFile.Decoder.instr
  refine (dk_b (dk_u1n hb h)).trans ?_
  rfl
set_option maxRecDepth 100000 in
theorem do_191 {c : ByteArray} {p : Nat} {b : UInt8} (hb : b.toNat = 191) (h : c.data[p]? = some b) : decode c p = .ok (.athrow, 1) := by
  refine dk_d ?_
  unfold Jvm.ClassFile.Decoder.instr
  refine (dk_b (dk_u1n hb h)).trans ?_
  rfl
set_option maxRecDepth 100000 in
theorem do_33 {c : ByteArray} {p : Nat} {b : UInt8} (hb : b.toNat = 33) (h : c.data[p]? = some b) : decode c p = .ok (.lload_n 3, 1) := by
  refine dk_d ?_
  unfold Jvm.ClassFile.Decoder.instr
  refine (dk_b (dk_u1n hb h)).trans ?_
  rfl
set_option maxRecDepth 100000 in
theorem do_5 {c : ByteArray} {p : Nat} {b : UInt8} (hb : b.toNat = 5) (h : c.data[p]? = some b) : decode c p = .ok (.iconst 2, 1) := by
  refine dk_d ?_
  unfold Jvm.ClassFile.Decoder.instr
  refine (dk_b (dk_u1n hb h)).trans ?_
  rfl
set_option maxRecDepth 100000 in
theorem do_8 {c : ByteArray} {p : Nat} {b : UInt8} (hb : b.toNat = 8) (h : c.data[p]? = some b) : decode c p = .ok (.iconst 5, 1) := by
  refine dk_d ?_
  unfold Jvm.ClassFile.Decoder.instr
  refine (dk_b (dk_u1n hb h)).trans ?_
  rfl
set_option maxRecDepth 100000 in
theorem do_30 {c : ByteArray} {p : Nat} {b : UInt8} (hb : b.toNat = 30) (h : c.data[p]? = some b) : decode c p = .ok (.lload_n 0, 1) := by
  refine dk_d ?_
  unfold Jvm.ClassFile.Decoder.instr
  refine (dk_b (dk_u1n hb h)).trans ?_
  rfl
set_option maxRecDepth 100000 in
theorem do_32 {c : ByteArray} {p : Nat} {b : UInt8} (hb : b.toNat = 32) (h : c.data[p]? = some b) : decode c p = .ok (.lload_n 2, 1) := by
  refine dk_d ?_
  unfold Jvm.ClassFile.Decoder.instr
  refine (dk_b (dk_u1n hb h)).trans ?_
  rfl
set_option maxRecDepth 100000 in
theorem do_136 {c : ByteArray} {p : Nat} {b : UInt8} (hb : b.toNat = 136) (h : c.data[p]? = some b) : decode c p = .ok (.l2i, 1) := by
  refine dk_d ?_
  unfold Jvm.ClassFile.Decoder.instr
  refine (dk_b (dk_u1n hb h)).trans ?_
  rfl
set_option maxRecDepth 100000 in
theorem do_66 {c : ByteArray} {p : Nat} {b : UInt8} (hb : b.toNat = 66) (h : c.data[p]? = some b) : decode c p = .ok (.lstore_n 3, 1) := by
  refine dk_d ?_
  unfold Jvm.ClassFile.Decoder.instr
  refine (dk_b (dk_u1n hb h)).trans ?_
  rfl
set_option maxRecDepth 100000 in
theorem do_78 {c : ByteArray} {p : Nat} {b : UInt8} (hb : b.toNat = 78) (h : c.data[p]? = some b) : decode c p = .ok (.astore_n 3, 1) := by
  refine dk_d ?_
  unfold Jvm.ClassFile.Decoder.instr
  refine (dk_b (dk_u1n hb h)).trans ?_
  rfl
set_option maxRecDepth 100000 in
theorem do_45 {c : ByteArray} {p : Nat} {b : UInt8} (hb : b.toNat = 45) (h : c.data[p]? = some b) : decode c p = .ok (.aload_n 3, 1) := by
  refine dk_d ?_
  unfold Jvm.ClassFile.Decoder.instr
  refine (dk_b (dk_u1n hb h)).trans ?_
  rfl
set_option maxRecDepth 100000 in
theorem do_146 {c : ByteArray} {p : Nat} {b : UInt8} (hb : b.toNat = 146) (h : c.data[p]? = some b) : decode c p = .ok (.i2c, 1) := by
  refine dk_d ?_
  unfold Jvm.ClassFile.Decoder.instr
  refine (dk_b (dk_u1n hb h)).trans ?_
  rfl
set_option maxRecDepth 100000 in
theorem do_65 {c : ByteArray} {p : Nat} {b : UInt8} (hb : b.toNat = 65) (h : c.data[p]? = some b) : decode c p = .ok (.lstore_n 2, 1) := by
  refine dk_d ?_
  unfold Jvm.ClassFile.Decoder.instr
  refine (dk_b (dk_u1n hb h)).trans ?_
  rfl
set_option maxRecDepth 100000 in
theorem do_190 {c : ByteArray} {p : Nat} {b : UInt8} (hb : b.toNat = 190) (h : c.data[p]? = some b) : decode c p = .ok (.arraylength, 1) := by
  refine dk_d ?_
  unfold Jvm.ClassFile.Decoder.instr
  refine (dk_b (dk_u1n hb h)).trans ?_
  rfl
set_option maxRecDepth 100000 in
theorem do_1 {c : ByteArray} {p : Nat} {b : UInt8} (hb : b.toNat = 1) (h : c.data[p]? = some b) : decode c p = .ok (.aconst_null, 1) := by
  refine dk_d ?_
  unfold Jvm.ClassFile.Decoder.instr
  refine (dk_b (dk_u1n hb h)).trans ?_
  rfl
set_option maxRecDepth 100000 in
theorem do_122 {c : ByteArray} {p : Nat} {b : UInt8} (hb : b.toNat = 122) (h : c.data[p]? = some b) : decode c p = .ok (.ishr, 1) := by
  refine dk_d ?_
  unfold Jvm.ClassFile.Decoder.instr
  refine (dk_b (dk_u1n hb h)).trans ?_
  rfl
set_option maxRecDepth 100000 in
theorem do_120 {c : ByteArray} {p : Nat} {b : UInt8} (hb : b.toNat = 120) (h : c.data[p]? = some b) : decode c p = .ok (.ishl, 1) := by
  refine dk_d ?_
  unfold Jvm.ClassFile.Decoder.instr
  refine (dk_b (dk_u1n hb h)).trans ?_
  rfl
set_option maxRecDepth 100000 in
theorem do_90 {c : ByteArray} {p : Nat} {b : UInt8} (hb : b.toNat = 90) (h : c.data[p]? = some b) : decode c p = .ok (.dup_x1, 1) := by
  refine dk_d ?_
  unfold Jvm.ClassFile.Decoder.instr
  refine (dk_b (dk_u1n hb h)).trans ?_
  rfl
set_option maxRecDepth 100000 in
theorem do_145 {c : ByteArray} {p : Nat} {b : UInt8} (hb : b.toNat = 145) (h : c.data[p]? = some b) : decode c p = .ok (.i2b, 1) := by
  refine dk_d ?_
  unfold Jvm.ClassFile.Decoder.instr
  refine (dk_b (dk_u1n hb h)).trans ?_
  rfl
set_option maxRecDepth 100000 in
theorem do_84 {c : ByteArray} {p : Nat} {b : UInt8} (hb : b.toNat = 84) (h : c.data[p]? = some b) : decode c p = .ok (.bastore, 1) := by
  refine dk_d ?_
  unfold Jvm.ClassFile.Decoder.instr
  refine (dk_b (dk_u1n hb h)).trans ?_
  rfl
set_option maxRecDepth 100000 in
theorem do_76 {c : ByteArray} {p : Nat} {b : UInt8} (hb : b.toNat = 76) (h : c.data[p]? = some b) : decode c p = .ok (.astore_n 1, 1) := by
  refine dk_d ?_
  unfold Jvm.ClassFile.Decoder.instr
  refine (dk_b (dk_u1n hb h)).trans ?_
  rfl
set_option maxRecDepth 100000 in
theorem do_51 {c : ByteArray} {p : Nat} {b : UInt8} (hb : b.toNat = 51) (h : c.data[p]? = some b) : decode c p = .ok (.baload, 1) := by
  refine dk_d ?_
  unfold Jvm.ClassFile.Decoder.instr
  refine (dk_b (dk_u1n hb h)).trans ?_
  rfl
set_option maxRecDepth 100000 in
theorem do_126 {c : ByteArray} {p : Nat} {b : UInt8} (hb : b.toNat = 126) (h : c.data[p]? = some b) : decode c p = .ok (.iand, 1) := by
  refine dk_d ?_
  unfold Jvm.ClassFile.Decoder.instr
  refine (dk_b (dk_u1n hb h)).trans ?_
  rfl
set_option maxRecDepth 100000 in
theorem do_88 {c : ByteArray} {p : Nat} {b : UInt8} (hb : b.toNat = 88) (h : c.data[p]? = some b) : decode c p = .ok (.pop2, 1) := by
  refine dk_d ?_
  unfold Jvm.ClassFile.Decoder.instr
  refine (dk_b (dk_u1n hb h)).trans ?_
  rfl
set_option maxRecDepth 100000 in
theorem do_21 {c : ByteArray} {p : Nat} {b : UInt8} (hb : b.toNat = 21) (h : c.data[p]? = some b) {b1 : UInt8} (h1 : c.data[p + 1]? = some b1) : decode c p = .ok (.iload b1.toNat, 2) := by
  refine dk_d ?_
  unfold Jvm.ClassFile.Decoder.instr
  refine (dk_b (dk_u1n hb h)).trans ?_
  show ((Jvm.ClassFile.Reader.u1 : Jvm.ClassFile.Decoder Nat) >>= fun v => pure (Instr.iload v)) c (p + 1) = _
  rw [dk_b (dk_u1 h1)]
  rfl
set_option maxRecDepth 100000 in
theorem do_55 {c : ByteArray} {p : Nat} {b : UInt8} (hb : b.toNat = 55) (h : c.data[p]? = some b) {b1 : UInt8} (h1 : c.data[p + 1]? = some b1) : decode c p = .ok (.lstore b1.toNat, 2) := by
  refine dk_d ?_
  unfold Jvm.ClassFile.Decoder.instr
  refine (dk_b (dk_u1n hb h)).trans ?_
  show ((Jvm.ClassFile.Reader.u1 : Jvm.ClassFile.Decoder Nat) >>= fun v => pure (Instr.lstore v)) c (p + 1) = _
  rw [dk_b (dk_u1 h1)]
  rfl
set_option maxRecDepth 100000 in
theorem do_22 {c : ByteArray} {p : Nat} {b : UInt8} (hb : b.toNat = 22) (h : c.data[p]? = some b) {b1 : UInt8} (h1 : c.data[p + 1]? = some b1) : decode c p = .ok (.lload b1.toNat, 2) := by
  refine dk_d ?_
  unfold Jvm.ClassFile.Decoder.instr
  refine (dk_b (dk_u1n hb h)).trans ?_
  show ((Jvm.ClassFile.Reader.u1 : Jvm.ClassFile.Decoder Nat) >>= fun v => pure (Instr.lload v)) c (p + 1) = _
  rw [dk_b (dk_u1 h1)]
  rfl
set_option maxRecDepth 100000 in
theorem do_54 {c : ByteArray} {p : Nat} {b : UInt8} (hb : b.toNat = 54) (h : c.data[p]? = some b) {b1 : UInt8} (h1 : c.data[p + 1]? = some b1) : decode c p = .ok (.istore b1.toNat, 2) := by
  refine dk_d ?_
  unfold Jvm.ClassFile.Decoder.instr
  refine (dk_b (dk_u1n hb h)).trans ?_
  show ((Jvm.ClassFile.Reader.u1 : Jvm.ClassFile.Decoder Nat) >>= fun v => pure (Instr.istore v)) c (p + 1) = _
  rw [dk_b (dk_u1 h1)]
  rfl
set_option maxRecDepth 100000 in
theorem do_18 {c : ByteArray} {p : Nat} {b : UInt8} (hb : b.toNat = 18) (h : c.data[p]? = some b) {b1 : UInt8} (h1 : c.data[p + 1]? = some b1) : decode c p = .ok (.ldc b1.toNat, 2) := by
  refine dk_d ?_
  unfold Jvm.ClassFile.Decoder.instr
  refine (dk_b (dk_u1n hb h)).trans ?_
  show ((Jvm.ClassFile.Reader.u1 : Jvm.ClassFile.Decoder Nat) >>= fun v => pure (Instr.ldc v)) c (p + 1) = _
  rw [dk_b (dk_u1 h1)]
  rfl
set_option maxRecDepth 100000 in
theorem do_58 {c : ByteArray} {p : Nat} {b : UInt8} (hb : b.toNat = 58) (h : c.data[p]? = some b) {b1 : UInt8} (h1 : c.data[p + 1]? = some b1) : decode c p = .ok (.astore b1.toNat, 2) := by
  refine dk_d ?_
  unfold Jvm.ClassFile.Decoder.instr
  refine (dk_b (dk_u1n hb h)).trans ?_
  show ((Jvm.ClassFile.Reader.u1 : Jvm.ClassFile.Decoder Nat) >>= fun v => pure (Instr.astore v)) c (p + 1) = _
  rw [dk_b (dk_u1 h1)]
  rfl
set_option maxRecDepth 100000 in
theorem do_25 {c : ByteArray} {p : Nat} {b : UInt8} (hb : b.toNat = 25) (h : c.data[p]? = some b) {b1 : UInt8} (h1 : c.data[p + 1]? = some b1) : decode c p = .ok (.aload b1.toNat, 2) := by
  refine dk_d ?_
  unfold Jvm.ClassFile.Decoder.instr
  refine (dk_b (dk_u1n hb h)).trans ?_
  show ((Jvm.ClassFile.Reader.u1 : Jvm.ClassFile.Decoder Nat) >>= fun v => pure (Instr.aload v)) c (p + 1) = _
  rw [dk_b (dk_u1 h1)]
  rfl
set_option maxRecDepth 100000 in
theorem do_16 {c : ByteArray} {p : Nat} {b : UInt8} (hb : b.toNat = 16) (h : c.data[p]? = some b) {b1 : UInt8} (h1 : c.data[p + 1]? = some b1) : decode c p = .ok (.bipush (Jvm.ClassFile.Reader.signed 8 b1.toNat), 2) := by
  refine dk_d ?_
  unfold Jvm.ClassFile.Decoder.instr
  refine (dk_b (dk_u1n hb h)).trans ?_
  show ((Jvm.ClassFile.Reader.signed 8 <$> (Jvm.ClassFile.Reader.u1 : Jvm.ClassFile.Decoder Nat)) >>= fun v => pure (Instr.bipush v)) c (p + 1) = _
  rw [dk_b (dk_m (dk_u1 h1))]
  rfl
set_option maxRecDepth 100000 in
theorem do_183 {c : ByteArray} {p : Nat} {b : UInt8} (hb : b.toNat = 183) (h : c.data[p]? = some b) {b1 : UInt8} (h1 : c.data[p + 1]? = some b1) {b2 : UInt8} (h2 : c.data[p + 2]? = some b2) : decode c p = .ok (.invokespecial (b1.toNat * 256 + b2.toNat), 3) := by
  refine dk_d ?_
  unfold Jvm.ClassFile.Decoder.instr
  refine (dk_b (dk_u1n hb h)).trans ?_
  show ((Jvm.ClassFile.Reader.u2 : Jvm.ClassFile.Decoder Nat) >>= fun v => pure (Instr.invokespecial v)) c (p + 1) = _
  rw [dk_b (dk_u2 h1 h2)]
  rfl
set_option maxRecDepth 100000 in
theorem do_181 {c : ByteArray} {p : Nat} {b : UInt8} (hb : b.toNat = 181) (h : c.data[p]? = some b) {b1 : UInt8} (h1 : c.data[p + 1]? = some b1) {b2 : UInt8} (h2 : c.data[p + 2]? = some b2) : decode c p = .ok (.putfield (b1.toNat * 256 + b2.toNat), 3) := by
  refine dk_d ?_
  unfold Jvm.ClassFile.Decoder.instr
  refine (dk_b (dk_u1n hb h)).trans ?_
  show ((Jvm.ClassFile.Reader.u2 : Jvm.ClassFile.Decoder Nat) >>= fun v => pure (Instr.putfield v)) c (p + 1) = _
  rw [dk_b (dk_u2 h1 h2)]
  rfl
set_option maxRecDepth 100000 in
theorem do_180 {c : ByteArray} {p : Nat} {b : UInt8} (hb : b.toNat = 180) (h : c.data[p]? = some b) {b1 : UInt8} (h1 : c.data[p + 1]? = some b1) {b2 : UInt8} (h2 : c.data[p + 2]? = some b2) : decode c p = .ok (.getfield (b1.toNat * 256 + b2.toNat), 3) := by
  refine dk_d ?_
  unfold Jvm.ClassFile.Decoder.instr
  refine (dk_b (dk_u1n hb h)).trans ?_
  show ((Jvm.ClassFile.Reader.u2 : Jvm.ClassFile.Decoder Nat) >>= fun v => pure (Instr.getfield v)) c (p + 1) = _
  rw [dk_b (dk_u2 h1 h2)]
  rfl
set_option maxRecDepth 100000 in
theorem do_182 {c : ByteArray} {p : Nat} {b : UInt8} (hb : b.toNat = 182) (h : c.data[p]? = some b) {b1 : UInt8} (h1 : c.data[p + 1]? = some b1) {b2 : UInt8} (h2 : c.data[p + 2]? = some b2) : decode c p = .ok (.invokevirtual (b1.toNat * 256 + b2.toNat), 3) := by
  refine dk_d ?_
  unfold Jvm.ClassFile.Decoder.instr
  refine (dk_b (dk_u1n hb h)).trans ?_
  show ((Jvm.ClassFile.Reader.u2 : Jvm.ClassFile.Decoder Nat) >>= fun v => pure (Instr.invokevirtual v)) c (p + 1) = _
  rw [dk_b (dk_u2 h1 h2)]
  rfl
set_option maxRecDepth 100000 in
theorem do_187 {c : ByteArray} {p : Nat} {b : UInt8} (hb : b.toNat = 187) (h : c.data[p]? = some b) {b1 : UInt8} (h1 : c.data[p + 1]? = some b1) {b2 : UInt8} (h2 : c.data[p + 2]? = some b2) : decode c p = .ok (.new (b1.toNat * 256 + b2.toNat), 3) := by
  refine dk_d ?_
  unfold Jvm.ClassFile.Decoder.instr
  refine (dk_b (dk_u1n hb h)).trans ?_
  show ((Jvm.ClassFile.Reader.u2 : Jvm.ClassFile.Decoder Nat) >>= fun v => pure (Instr.new v)) c (p + 1) = _
  rw [dk_b (dk_u2 h1 h2)]
  rfl
set_option maxRecDepth 100000 in
theorem do_184 {c : ByteArray} {p : Nat} {b : UInt8} (hb : b.toNat = 184) (h : c.data[p]? = some b) {b1 : UInt8} (h1 : c.data[p + 1]? = some b1) {b2 : UInt8} (h2 : c.data[p + 2]? = some b2) : decode c p = .ok (.invokestatic (b1.toNat * 256 + b2.toNat), 3) := by
  refine dk_d ?_
  unfold Jvm.ClassFile.Decoder.instr
  refine (dk_b (dk_u1n hb h)).trans ?_
  show ((Jvm.ClassFile.Reader.u2 : Jvm.ClassFile.Decoder Nat) >>= fun v => pure (Instr.invokestatic v)) c (p + 1) = _
  rw [dk_b (dk_u2 h1 h2)]
  rfl
set_option maxRecDepth 100000 in
theorem do_20 {c : ByteArray} {p : Nat} {b : UInt8} (hb : b.toNat = 20) (h : c.data[p]? = some b) {b1 : UInt8} (h1 : c.data[p + 1]? = some b1) {b2 : UInt8} (h2 : c.data[p + 2]? = some b2) : decode c p = .ok (.ldc2_w (b1.toNat * 256 + b2.toNat), 3) := by
  refine dk_d ?_
  unfold Jvm.ClassFile.Decoder.instr
  refine (dk_b (dk_u1n hb h)).trans ?_
  show ((Jvm.ClassFile.Reader.u2 : Jvm.ClassFile.Decoder Nat) >>= fun v => pure (Instr.ldc2_w v)) c (p + 1) = _
  rw [dk_b (dk_u2 h1 h2)]
  rfl
set_option maxRecDepth 100000 in
theorem do_178 {c : ByteArray} {p : Nat} {b : UInt8} (hb : b.toNat = 178) (h : c.data[p]? = some b) {b1 : UInt8} (h1 : c.data[p + 1]? = some b1) {b2 : UInt8} (h2 : c.data[p + 2]? = some b2) : decode c p = .ok (.getstatic (b1.toNat * 256 + b2.toNat), 3) := by
  refine dk_d ?_
  unfold Jvm.ClassFile.Decoder.instr
  refine (dk_b (dk_u1n hb h)).trans ?_
  show ((Jvm.ClassFile.Reader.u2 : Jvm.ClassFile.Decoder Nat) >>= fun v => pure (Instr.getstatic v)) c (p + 1) = _
  rw [dk_b (dk_u2 h1 h2)]
  rfl
set_option maxRecDepth 100000 in
theorem do_192 {c : ByteArray} {p : Nat} {b : UInt8} (hb : b.toNat = 192) (h : c.data[p]? = some b) {b1 : UInt8} (h1 : c.data[p + 1]? = some b1) {b2 : UInt8} (h2 : c.data[p + 2]? = some b2) : decode c p = .ok (.checkcast (b1.toNat * 256 + b2.toNat), 3) := by
  refine dk_d ?_
  unfold Jvm.ClassFile.Decoder.instr
  refine (dk_b (dk_u1n hb h)).trans ?_
  show ((Jvm.ClassFile.Reader.u2 : Jvm.ClassFile.Decoder Nat) >>= fun v => pure (Instr.checkcast v)) c (p + 1) = _
  rw [dk_b (dk_u2 h1 h2)]
  rfl
set_option maxRecDepth 100000 in
theorem do_19 {c : ByteArray} {p : Nat} {b : UInt8} (hb : b.toNat = 19) (h : c.data[p]? = some b) {b1 : UInt8} (h1 : c.data[p + 1]? = some b1) {b2 : UInt8} (h2 : c.data[p + 2]? = some b2) : decode c p = .ok (.ldc_w (b1.toNat * 256 + b2.toNat), 3) := by
  refine dk_d ?_
  unfold Jvm.ClassFile.Decoder.instr
  refine (dk_b (dk_u1n hb h)).trans ?_
  show ((Jvm.ClassFile.Reader.u2 : Jvm.ClassFile.Decoder Nat) >>= fun v => pure (Instr.ldc_w v)) c (p + 1) = _
  rw [dk_b (dk_u2 h1 h2)]
  rfl
set_option maxRecDepth 100000 in
theorem do_162 {c : ByteArray} {p : Nat} {b : UInt8} (hb : b.toNat = 162) (h : c.data[p]? = some b) {b1 : UInt8} (h1 : c.data[p + 1]? = some b1) {b2 : UInt8} (h2 : c.data[p + 2]? = some b2) : decode c p = .ok (.if_icmp .ge (Jvm.ClassFile.Reader.signed 16 (b1.toNat * 256 + b2.toNat)), 3) := by
  refine dk_d ?_
  unfold Jvm.ClassFile.Decoder.instr
  refine (dk_b (dk_u1n hb h)).trans ?_
  show ((Jvm.ClassFile.Reader.signed 16 <$> (Jvm.ClassFile.Reader.u2 : Jvm.ClassFile.Decoder Nat)) >>= fun v => pure (Instr.if_icmp .ge v)) c (p + 1) = _
  rw [dk_b (dk_m (dk_u2 h1 h2))]
  rfl
set_option maxRecDepth 100000 in
theorem do_167 {c : ByteArray} {p : Nat} {b : UInt8} (hb : b.toNat = 167) (h : c.data[p]? = some b) {b1 : UInt8} (h1 : c.data[p + 1]? = some b1) {b2 : UInt8} (h2 : c.data[p + 2]? = some b2) : decode c p = .ok (.goto (Jvm.ClassFile.Reader.signed 16 (b1.toNat * 256 + b2.toNat)), 3) := by
  refine dk_d ?_
  unfold Jvm.ClassFile.Decoder.instr
  refine (dk_b (dk_u1n hb h)).trans ?_
  show ((Jvm.ClassFile.Reader.signed 16 <$> (Jvm.ClassFile.Reader.u2 : Jvm.ClassFile.Decoder Nat)) >>= fun v => pure (Instr.goto  v)) c (p + 1) = _
  rw [dk_b (dk_m (dk_u2 h1 h2))]
  rfl
set_option maxRecDepth 100000 in
theorem do_155 {c : ByteArray} {p : Nat} {b : UInt8} (hb : b.toNat = 155) (h : c.data[p]? = some b) {b1 : UInt8} (h1 : c.data[p + 1]? = some b1) {b2 : UInt8} (h2 : c.data[p + 2]? = some b2) : decode c p = .ok (.ifCond .lt (Jvm.ClassFile.Reader.signed 16 (b1.toNat * 256 + b2.toNat)), 3) := by
  refine dk_d ?_
  unfold Jvm.ClassFile.Decoder.instr
  refine (dk_b (dk_u1n hb h)).trans ?_
  show ((Jvm.ClassFile.Reader.signed 16 <$> (Jvm.ClassFile.Reader.u2 : Jvm.ClassFile.Decoder Nat)) >>= fun v => pure (Instr.ifCond .lt v)) c (p + 1) = _
  rw [dk_b (dk_m (dk_u2 h1 h2))]
  rfl
set_option maxRecDepth 100000 in
theorem do_159 {c : ByteArray} {p : Nat} {b : UInt8} (hb : b.toNat = 159) (h : c.data[p]? = some b) {b1 : UInt8} (h1 : c.data[p + 1]? = some b1) {b2 : UInt8} (h2 : c.data[p + 2]? = some b2) : decode c p = .ok (.if_icmp .eq (Jvm.ClassFile.Reader.signed 16 (b1.toNat * 256 + b2.toNat)), 3) := by
  refine dk_d ?_
  unfold Jvm.ClassFile.Decoder.instr
  refine (dk_b (dk_u1n hb h)).trans ?_
  show ((Jvm.ClassFile.Reader.signed 16 <$> (Jvm.ClassFile.Reader.u2 : Jvm.ClassFile.Decoder Nat)) >>= fun v => pure (Instr.if_icmp .eq v)) c (p + 1) = _
  rw [dk_b (dk_m (dk_u2 h1 h2))]
  rfl
set_option maxRecDepth 100000 in
theorem do_158 {c : ByteArray} {p : Nat} {b : UInt8} (hb : b.toNat = 158) (h : c.data[p]? = some b) {b1 : UInt8} (h1 : c.data[p + 1]? = some b1) {b2 : UInt8} (h2 : c.data[p + 2]? = some b2) : decode c p = .ok (.ifCond .le (Jvm.ClassFile.Reader.signed 16 (b1.toNat * 256 + b2.toNat)), 3) := by
  refine dk_d ?_
  unfold Jvm.ClassFile.Decoder.instr
  refine (dk_b (dk_u1n hb h)).trans ?_
  show ((Jvm.ClassFile.Reader.signed 16 <$> (Jvm.ClassFile.Reader.u2 : Jvm.ClassFile.Decoder Nat)) >>= fun v => pure (Instr.ifCond .le v)) c (p + 1) = _
  rw [dk_b (dk_m (dk_u2 h1 h2))]
  rfl
set_option maxRecDepth 100000 in
theorem do_154 {c : ByteArray} {p : Nat} {b : UInt8} (hb : b.toNat = 154) (h : c.data[p]? = some b) {b1 : UInt8} (h1 : c.data[p + 1]? = some b1) {b2 : UInt8} (h2 : c.data[p + 2]? = some b2) : decode c p = .ok (.ifCond .ne (Jvm.ClassFile.Reader.signed 16 (b1.toNat * 256 + b2.toNat)), 3) := by
  refine dk_d ?_
  unfold Jvm.ClassFile.Decoder.instr
  refine (dk_b (dk_u1n hb h)).trans ?_
  show ((Jvm.ClassFile.Reader.signed 16 <$> (Jvm.ClassFile.Reader.u2 : Jvm.ClassFile.Decoder Nat)) >>= fun v => pure (Instr.ifCond .ne v)) c (p + 1) = _
  rw [dk_b (dk_m (dk_u2 h1 h2))]
  rfl
set_option maxRecDepth 100000 in
theorem do_153 {c : ByteArray} {p : Nat} {b : UInt8} (hb : b.toNat = 153) (h : c.data[p]? = some b) {b1 : UInt8} (h1 : c.data[p + 1]? = some b1) {b2 : UInt8} (h2 : c.data[p + 2]? = some b2) : decode c p = .ok (.ifCond .eq (Jvm.ClassFile.Reader.signed 16 (b1.toNat * 256 + b2.toNat)), 3) := by
  refine dk_d ?_
  unfold Jvm.ClassFile.Decoder.instr
  refine (dk_b (dk_u1n hb h)).trans ?_
  show ((Jvm.ClassFile.Reader.signed 16 <$> (Jvm.ClassFile.Reader.u2 : Jvm.ClassFile.Decoder Nat)) >>= fun v => pure (Instr.ifCond .eq v)) c (p + 1) = _
  rw [dk_b (dk_m (dk_u2 h1 h2))]
  rfl
set_option maxRecDepth 100000 in
theorem do_156 {c : ByteArray} {p : Nat} {b : UInt8} (hb : b.toNat = 156) (h : c.data[p]? = some b) {b1 : UInt8} (h1 : c.data[p + 1]? = some b1) {b2 : UInt8} (h2 : c.data[p + 2]? = some b2) : decode c p = .ok (.ifCond .ge (Jvm.ClassFile.Reader.signed 16 (b1.toNat * 256 + b2.toNat)), 3) := by
  refine dk_d ?_
  unfold Jvm.ClassFile.Decoder.instr
  refine (dk_b (dk_u1n hb h)).trans ?_
  show ((Jvm.ClassFile.Reader.signed 16 <$> (Jvm.ClassFile.Reader.u2 : Jvm.ClassFile.Decoder Nat)) >>= fun v => pure (Instr.ifCond .ge v)) c (p + 1) = _
  rw [dk_b (dk_m (dk_u2 h1 h2))]
  rfl
set_option maxRecDepth 100000 in
theorem do_157 {c : ByteArray} {p : Nat} {b : UInt8} (hb : b.toNat = 157) (h : c.data[p]? = some b) {b1 : UInt8} (h1 : c.data[p + 1]? = some b1) {b2 : UInt8} (h2 : c.data[p + 2]? = some b2) : decode c p = .ok (.ifCond .gt (Jvm.ClassFile.Reader.signed 16 (b1.toNat * 256 + b2.toNat)), 3) := by
  refine dk_d ?_
  unfold Jvm.ClassFile.Decoder.instr
  refine (dk_b (dk_u1n hb h)).trans ?_
  show ((Jvm.ClassFile.Reader.signed 16 <$> (Jvm.ClassFile.Reader.u2 : Jvm.ClassFile.Decoder Nat)) >>= fun v => pure (Instr.ifCond .gt v)) c (p + 1) = _
  rw [dk_b (dk_m (dk_u2 h1 h2))]
  rfl
set_option maxRecDepth 100000 in
theorem do_164 {c : ByteArray} {p : Nat} {b : UInt8} (hb : b.toNat = 164) (h : c.data[p]? = some b) {b1 : UInt8} (h1 : c.data[p + 1]? = some b1) {b2 : UInt8} (h2 : c.data[p + 2]? = some b2) : decode c p = .ok (.if_icmp .le (Jvm.ClassFile.Reader.signed 16 (b1.toNat * 256 + b2.toNat)), 3) := by
  refine dk_d ?_
  unfold Jvm.ClassFile.Decoder.instr
  refine (dk_b (dk_u1n hb h)).trans ?_
  show ((Jvm.ClassFile.Reader.signed 16 <$> (Jvm.ClassFile.Reader.u2 : Jvm.ClassFile.Decoder Nat)) >>= fun v => pure (Instr.if_icmp .le v)) c (p + 1) = _
  rw [dk_b (dk_m (dk_u2 h1 h2))]
  rfl
set_option maxRecDepth 100000 in
theorem do_160 {c : ByteArray} {p : Nat} {b : UInt8} (hb : b.toNat = 160) (h : c.data[p]? = some b) {b1 : UInt8} (h1 : c.data[p + 1]? = some b1) {b2 : UInt8} (h2 : c.data[p + 2]? = some b2) : decode c p = .ok (.if_icmp .ne (Jvm.ClassFile.Reader.signed 16 (b1.toNat * 256 + b2.toNat)), 3) := by
  refine dk_d ?_
  unfold Jvm.ClassFile.Decoder.instr
  refine (dk_b (dk_u1n hb h)).trans ?_
  show ((Jvm.ClassFile.Reader.signed 16 <$> (Jvm.ClassFile.Reader.u2 : Jvm.ClassFile.Decoder Nat)) >>= fun v => pure (Instr.if_icmp .ne v)) c (p + 1) = _
  rw [dk_b (dk_m (dk_u2 h1 h2))]
  rfl
set_option maxRecDepth 100000 in
theorem do_161 {c : ByteArray} {p : Nat} {b : UInt8} (hb : b.toNat = 161) (h : c.data[p]? = some b) {b1 : UInt8} (h1 : c.data[p + 1]? = some b1) {b2 : UInt8} (h2 : c.data[p + 2]? = some b2) : decode c p = .ok (.if_icmp .lt (Jvm.ClassFile.Reader.signed 16 (b1.toNat * 256 + b2.toNat)), 3) := by
  refine dk_d ?_
  unfold Jvm.ClassFile.Decoder.instr
  refine (dk_b (dk_u1n hb h)).trans ?_
  show ((Jvm.ClassFile.Reader.signed 16 <$> (Jvm.ClassFile.Reader.u2 : Jvm.ClassFile.Decoder Nat)) >>= fun v => pure (Instr.if_icmp .lt v)) c (p + 1) = _
  rw [dk_b (dk_m (dk_u2 h1 h2))]
  rfl
set_option maxRecDepth 100000 in
theorem do_163 {c : ByteArray} {p : Nat} {b : UInt8} (hb : b.toNat = 163) (h : c.data[p]? = some b) {b1 : UInt8} (h1 : c.data[p + 1]? = some b1) {b2 : UInt8} (h2 : c.data[p + 2]? = some b2) : decode c p = .ok (.if_icmp .gt (Jvm.ClassFile.Reader.signed 16 (b1.toNat * 256 + b2.toNat)), 3) := by
  refine dk_d ?_
  unfold Jvm.ClassFile.Decoder.instr
  refine (dk_b (dk_u1n hb h)).trans ?_
  show ((Jvm.ClassFile.Reader.signed 16 <$> (Jvm.ClassFile.Reader.u2 : Jvm.ClassFile.Decoder Nat)) >>= fun v => pure (Instr.if_icmp .gt v)) c (p + 1) = _
  rw [dk_b (dk_m (dk_u2 h1 h2))]
  rfl
set_option maxRecDepth 100000 in
theorem do_17 {c : ByteArray} {p : Nat} {b : UInt8} (hb : b.toNat = 17) (h : c.data[p]? = some b) {b1 : UInt8} (h1 : c.data[p + 1]? = some b1) {b2 : UInt8} (h2 : c.data[p + 2]? = some b2) : decode c p = .ok (.sipush (Jvm.ClassFile.Reader.signed 16 (b1.toNat * 256 + b2.toNat)), 3) := by
  refine dk_d ?_
  unfold Jvm.ClassFile.Decoder.instr
  refine (dk_b (dk_u1n hb h)).trans ?_
  show ((Jvm.ClassFile.Reader.signed 16 <$> (Jvm.ClassFile.Reader.u2 : Jvm.ClassFile.Decoder Nat)) >>= fun v => pure (Instr.sipush  v)) c (p + 1) = _
  rw [dk_b (dk_m (dk_u2 h1 h2))]
  rfl
set_option maxRecDepth 100000 in
theorem do_199 {c : ByteArray} {p : Nat} {b : UInt8} (hb : b.toNat = 199) (h : c.data[p]? = some b) {b1 : UInt8} (h1 : c.data[p + 1]? = some b1) {b2 : UInt8} (h2 : c.data[p + 2]? = some b2) : decode c p = .ok (.ifnonnull (Jvm.ClassFile.Reader.signed 16 (b1.toNat * 256 + b2.toNat)), 3) := by
  refine dk_d ?_
  unfold Jvm.ClassFile.Decoder.instr
  refine (dk_b (dk_u1n hb h)).trans ?_
  show ((Jvm.ClassFile.Reader.signed 16 <$> (Jvm.ClassFile.Reader.u2 : Jvm.ClassFile.Decoder Nat)) >>= fun v => pure (Instr.ifnonnull  v)) c (p + 1) = _
  rw [dk_b (dk_m (dk_u2 h1 h2))]
  rfl
set_option maxRecDepth 100000 in
theorem do_132 {c : ByteArray} {p : Nat} {b : UInt8} (hb : b.toNat = 132) (h : c.data[p]? = some b) {b1 : UInt8} (h1 : c.data[p + 1]? = some b1) {b2 : UInt8} (h2 : c.data[p + 2]? = some b2) : decode c p = .ok (.iinc b1.toNat (Jvm.ClassFile.Reader.signed 8 b2.toNat), 3) := by
  refine dk_d ?_
  unfold Jvm.ClassFile.Decoder.instr
  refine (dk_b (dk_u1n hb h)).trans ?_
  show ((Jvm.ClassFile.Reader.u1 : Jvm.ClassFile.Decoder Nat) >>= fun v => (Jvm.ClassFile.Reader.signed 8 <$> (Jvm.ClassFile.Reader.u1 : Jvm.ClassFile.Decoder Nat)) >>= fun w => pure (Instr.iinc v w)) c (p + 1) = _
  rw [dk_b (dk_u1 h1), dk_b (dk_m (dk_u1 h2))]
  rfl
set_option maxRecDepth 100000 in
theorem do_188_10 {c : ByteArray} {p : Nat} {b : UInt8} (hb : b.toNat = 188) (h : c.data[p]? = some b) {b1 : UInt8} (h1 : c.data[p + 1]? = some b1) (hv : b1.toNat = 10) : decode c p = .ok (.newarray .int, 2) := by
  refine dk_d ?_
  unfold Jvm.ClassFile.Decoder.instr
  refine (dk_b (dk_u1n hb h)).trans ?_
  show (Jvm.ClassFile.Decoder.newarray p) c (p + 1) = _
  unfold Jvm.ClassFile.Decoder.newarray
  rw [dk_b (dk_u1 h1), hv]
  rfl
set_option maxRecDepth 100000 in
theorem do_188_8 {c : ByteArray} {p : Nat} {b : UInt8} (hb : b.toNat = 188) (h : c.data[p]? = some b) {b1 : UInt8} (h1 : c.data[p + 1]? = some b1) (hv : b1.toNat = 8) : decode c p = .ok (.newarray .byte, 2) := by
  refine dk_d ?_
  unfold Jvm.ClassFile.Decoder.instr
  refine (dk_b (dk_u1n hb h)).trans ?_
  show (Jvm.ClassFile.Decoder.newarray p) c (p + 1) = _
  unfold Jvm.ClassFile.Decoder.newarray
  rw [dk_b (dk_u1 h1), hv]
  rfl
def ft0 : List (Nat × Instr) := [(42, .aload_n 0), (27, .iload_n 1), (46, .iaload), (172, .ireturn), (28, .iload_n 2), (3, .iconst 0), (4, .iconst 1), (96, .iadd), (29, .iload_n 3), (133, .i2l), (5, .iconst 2), (6, .iconst 3), (45, .aload_n 3), (44, .aload_n 2), (43, .aload_n 1), (148, .lcmp), (9, .lconst 0), (79, .iastore), (62, .istore_n 3), (105, .lmul), (176, .areturn), (7, .iconst 4), (26, .iload_n 0), (30, .lload_n 0), (100, .isub), (173, .lreturn), (177, .return_), (104, .imul), (32, .lload_n 2), (61, .istore_n 2), (112, .irem), (89, .dup), (8, .iconst 5), (10, .lconst 1), (78, .astore_n 3), (33, .lload_n 3), (31, .lload_n 1), (190, .arraylength), (66, .lstore_n 3), (87, .pop), (97, .ladd), (109, .ldiv), (64, .lstore_n 1), (92, .dup2), (101, .lsub), (108, .idiv), (60, .istore_n 1), (113, .lrem), (117, .lneg), (116, .ineg), (77, .astore_n 2), (2, .iconst (-1)), (191, .athrow), (136, .l2i), (120, .ishl), (146, .i2c), (122, .ishr), (84, .bastore), (1, .aconst_null), (90, .dup_x1), (76, .astore_n 1), (51, .baload), (88, .pop2), (65, .lstore_n 2), (145, .i2b), (126, .iand)]
theorem ft0_ok : ∀ e ∈ ft0, ∀ (c : ByteArray) (p : Nat) (b : UInt8), b.toNat = e.1 → c.data[p]? = some b → decode c p = .ok (e.2, 1) := (List.forall_mem_cons.mpr ⟨fun _ _ _ hb h => do_42 hb h, (List.forall_mem_cons.mpr ⟨fun _ _ _ hb h => do_27 hb h, (List.forall_mem_cons.mpr ⟨fun _ _ _ hb h => do_46 hb h, (List.forall_mem_cons.mpr ⟨fun _ _ _ hb h => do_172 hb h, (List.forall_mem_cons.mpr ⟨fun _ _ _ hb h => do_28 hb h, (List.forall_mem_cons.mpr ⟨fun _ _ _ hb h => do_3 hb h, (List.forall_mem_cons.mpr ⟨fun _ _ _ hb h => do_4 hb h, (List.forall_mem_cons.mpr ⟨fun _ _ _ hb h => do_96 hb h, (List.forall_mem_cons.mpr ⟨fun _ _ _ hb h => do_29 hb h, (List.forall_mem_cons.mpr ⟨fun _ _ _ hb h => do_133 hb h, (List.forall_mem_cons.mpr ⟨fun _ _ _ hb h => do_5 hb h, (List.forall_mem_cons.mpr ⟨fun _ _ _ hb h => do_6 hb h, (List.forall_mem_cons.mpr ⟨fun _ _ _ hb h => do_45 hb h, (List.forall_mem_cons.mpr ⟨fun _ _ _ hb h => do_44 hb h, (List.forall_mem_cons.mpr ⟨fun _ _ _ hb h => do_43 hb h, (List.forall_mem_cons.mpr ⟨fun _ _ _ hb h => do_148 hb h, (List.forall_mem_cons.mpr ⟨fun _ _ _ hb h => do_9 hb h, (List.forall_mem_cons.mpr ⟨fun _ _ _ hb h => do_79 hb h, (List.forall_mem_cons.mpr ⟨fun _ _ _ hb h => do_62 hb h, (List.forall_mem_cons.mpr ⟨fun _ _ _ hb h => do_105 hb h, (List.forall_mem_cons.mpr ⟨fun _ _ _ hb h => do_176 hb h, (List.forall_mem_cons.mpr ⟨fun _ _ _ hb h => do_7 hb h, (List.forall_mem_cons.mpr ⟨fun _ _ _ hb h => do_26 hb h, (List.forall_mem_cons.mpr ⟨fun _ _ _ hb h => do_30 hb h, (List.forall_mem_cons.mpr ⟨fun _ _ _ hb h => do_100 hb h, (List.forall_mem_cons.mpr ⟨fun _ _ _ hb h => do_173 hb h, (List.forall_mem_cons.mpr ⟨fun _ _ _ hb h => do_177 hb h, (List.forall_mem_cons.mpr ⟨fun _ _ _ hb h => do_104 hb h, (List.forall_mem_cons.mpr ⟨fun _ _ _ hb h => do_32 hb h, (List.forall_mem_cons.mpr ⟨fun _ _ _ hb h => do_61 hb h, (List.forall_mem_cons.mpr ⟨fun _ _ _ hb h => do_112 hb h, (List.forall_mem_cons.mpr ⟨fun _ _ _ hb h => do_89 hb h, (List.forall_mem_cons.mpr ⟨fun _ _ _ hb h => do_8 hb h, (List.forall_mem_cons.mpr ⟨fun _ _ _ hb h => do_10 hb h, (List.forall_mem_cons.mpr ⟨fun _ _ _ hb h => do_78 hb h, (List.forall_mem_cons.mpr ⟨fun _ _ _ hb h => do_33 hb h, (List.forall_mem_cons.mpr ⟨fun _ _ _ hb h => do_31 hb h, (List.forall_mem_cons.mpr ⟨fun _ _ _ hb h => do_190 hb h, (List.forall_mem_cons.mpr ⟨fun _ _ _ hb h => do_66 hb h, (List.forall_mem_cons.mpr ⟨fun _ _ _ hb h => do_87 hb h, (List.forall_mem_cons.mpr ⟨fun _ _ _ hb h => do_97 hb h, (List.forall_mem_cons.mpr ⟨fun _ _ _ hb h => do_109 hb h, (List.forall_mem_cons.mpr ⟨fun _ _ _ hb h => do_64 hb h, (List.forall_mem_cons.mpr ⟨fun _ _ _ hb h => do_92 hb h, (List.forall_mem_cons.mpr ⟨fun _ _ _ hb h => do_101 hb h, (List.forall_mem_cons.mpr ⟨fun _ _ _ hb h => do_108 hb h, (List.forall_mem_cons.mpr ⟨fun _ _ _ hb h => do_60 hb h, (List.forall_mem_cons.mpr ⟨fun _ _ _ hb h => do_113 hb h, (List.forall_mem_cons.mpr ⟨fun _ _ _ hb h => do_117 hb h, (List.forall_mem_cons.mpr ⟨fun _ _ _ hb h => do_116 hb h, (List.forall_mem_cons.mpr ⟨fun _ _ _ hb h => do_77 hb h, (List.forall_mem_cons.mpr ⟨fun _ _ _ hb h => do_2 hb h, (List.forall_mem_cons.mpr ⟨fun _ _ _ hb h => do_191 hb h, (List.forall_mem_cons.mpr ⟨fun _ _ _ hb h => do_136 hb h, (List.forall_mem_cons.mpr ⟨fun _ _ _ hb h => do_120 hb h, (List.forall_mem_cons.mpr ⟨fun _ _ _ hb h => do_146 hb h, (List.forall_mem_cons.mpr ⟨fun _ _ _ hb h => do_122 hb h, (List.forall_mem_cons.mpr ⟨fun _ _ _ hb h => do_84 hb h, (List.forall_mem_cons.mpr ⟨fun _ _ _ hb h => do_1 hb h, (List.forall_mem_cons.mpr ⟨fun _ _ _ hb h => do_90 hb h, (List.forall_mem_cons.mpr ⟨fun _ _ _ hb h => do_76 hb h, (List.forall_mem_cons.mpr ⟨fun _ _ _ hb h => do_51 hb h, (List.forall_mem_cons.mpr ⟨fun _ _ _ hb h => do_88 hb h, (List.forall_mem_cons.mpr ⟨fun _ _ _ hb h => do_65 hb h, (List.forall_mem_cons.mpr ⟨fun _ _ _ hb h => do_145 hb h, (List.forall_mem_cons.mpr ⟨fun _ _ _ hb h => do_126 hb h, (fun _ h => absurd h List.not_mem_nil)⟩)⟩)⟩)⟩)⟩)⟩)⟩)⟩)⟩)⟩)⟩)⟩)⟩)⟩)⟩)⟩)⟩)⟩)⟩)⟩)⟩)⟩)⟩)⟩)⟩)⟩)⟩)⟩)⟩)⟩)⟩)⟩)⟩)⟩)⟩)⟩)⟩)⟩)⟩)⟩)⟩)⟩)⟩)⟩)⟩)⟩)⟩)⟩)⟩)⟩)⟩)⟩)⟩)⟩)⟩)⟩)⟩)⟩)⟩)⟩)⟩)⟩)⟩)⟩)⟩)⟩)
def fu1 : List (Nat × (Nat → Instr)) := [(21, fun v => .iload v), (54, fun v => .istore v), (22, fun v => .lload v), (58, fun v => .astore v), (55, fun v => .lstore v), (25, fun v => .aload v), (18, fun v => .ldc v)]
theorem fu1_ok : ∀ e ∈ fu1, ∀ (c : ByteArray) (p : Nat) (b b1 : UInt8), b.toNat = e.1 → c.data[p]? = some b → c.data[p + 1]? = some b1 → decode c p = .ok (e.2 b1.toNat, 2) := (List.forall_mem_cons.mpr ⟨fun _ _ _ _ hb h h1 => do_21 hb h h1, (List.forall_mem_cons.mpr ⟨fun _ _ _ _ hb h h1 => do_54 hb h h1, (List.forall_mem_cons.mpr ⟨fun _ _ _ _ hb h h1 => do_22 hb h h1, (List.forall_mem_cons.mpr ⟨fun _ _ _ _ hb h h1 => do_58 hb h h1, (List.forall_mem_cons.mpr ⟨fun _ _ _ _ hb h h1 => do_55 hb h h1, (List.forall_mem_cons.mpr ⟨fun _ _ _ _ hb h h1 => do_25 hb h h1, (List.forall_mem_cons.mpr ⟨fun _ _ _ _ hb h h1 => do_18 hb h h1, (fun _ h => absurd h List.not_mem_nil)⟩)⟩)⟩)⟩)⟩)⟩)⟩)
def fs1 : List (Nat × (Int → Instr)) := [(16, fun v => .bipush v)]
theorem fs1_ok : ∀ e ∈ fs1, ∀ (c : ByteArray) (p : Nat) (b b1 : UInt8), b.toNat = e.1 → c.data[p]? = some b → c.data[p + 1]? = some b1 → decode c p = .ok (e.2 (Jvm.ClassFile.Reader.signed 8 b1.toNat), 2) := (List.forall_mem_cons.mpr ⟨fun _ _ _ _ hb h h1 => do_16 hb h h1, (fun _ h => absurd h List.not_mem_nil)⟩)
def fu2 : List (Nat × (Nat → Instr)) := [(184, fun v => .invokestatic v), (182, fun v => .invokevirtual v), (180, fun v => .getfield v), (181, fun v => .putfield v), (20, fun v => .ldc2_w v), (183, fun v => .invokespecial v), (187, fun v => .new v), (178, fun v => .getstatic v), (192, fun v => .checkcast v), (19, fun v => .ldc_w v)]
theorem fu2_ok : ∀ e ∈ fu2, ∀ (c : ByteArray) (p : Nat) (b b1 b2 : UInt8), b.toNat = e.1 → c.data[p]? = some b → c.data[p + 1]? = some b1 → c.data[p + 2]? = some b2 → decode c p = .ok (e.2 (b1.toNat * 256 + b2.toNat), 3) := (List.forall_mem_cons.mpr ⟨fun _ _ _ _ _ hb h h1 h2 => do_184 hb h h1 h2, (List.forall_mem_cons.mpr ⟨fun _ _ _ _ _ hb h h1 h2 => do_182 hb h h1 h2, (List.forall_mem_cons.mpr ⟨fun _ _ _ _ _ hb h h1 h2 => do_180 hb h h1 h2, (List.forall_mem_cons.mpr ⟨fun _ _ _ _ _ hb h h1 h2 => do_181 hb h h1 h2, (List.forall_mem_cons.mpr ⟨fun _ _ _ _ _ hb h h1 h2 => do_20 hb h h1 h2, (List.forall_mem_cons.mpr ⟨fun _ _ _ _ _ hb h h1 h2 => do_183 hb h h1 h2, (List.forall_mem_cons.mpr ⟨fun _ _ _ _ _ hb h h1 h2 => do_187 hb h h1 h2, (List.forall_mem_cons.mpr ⟨fun _ _ _ _ _ hb h h1 h2 => do_178 hb h h1 h2, (List.forall_mem_cons.mpr ⟨fun _ _ _ _ _ hb h h1 h2 => do_192 hb h h1 h2, (List.forall_mem_cons.mpr ⟨fun _ _ _ _ _ hb h h1 h2 => do_19 hb h h1 h2, (fun _ h => absurd h List.not_mem_nil)⟩)⟩)⟩)⟩)⟩)⟩)⟩)⟩)⟩)⟩)
def fs2 : List (Nat × (Int → Instr)) := [(167, fun v => .goto v), (153, fun v => .ifCond .eq v), (154, fun v => .ifCond .ne v), (162, fun v => .if_icmp .ge v), (160, fun v => .if_icmp .ne v), (155, fun v => .ifCond .lt v), (158, fun v => .ifCond .le v), (156, fun v => .ifCond .ge v), (163, fun v => .if_icmp .gt v), (164, fun v => .if_icmp .le v), (159, fun v => .if_icmp .eq v), (157, fun v => .ifCond .gt v), (17, fun v => .sipush v), (161, fun v => .if_icmp .lt v), (199, fun v => .ifnonnull v)]
theorem fs2_ok : ∀ e ∈ fs2, ∀ (c : ByteArray) (p : Nat) (b b1 b2 : UInt8), b.toNat = e.1 → c.data[p]? = some b → c.data[p + 1]? = some b1 → c.data[p + 2]? = some b2 → decode c p = .ok (e.2 (Jvm.ClassFile.Reader.signed 16 (b1.toNat * 256 + b2.toNat)), 3) := (List.forall_mem_cons.mpr ⟨fun _ _ _ _ _ hb h h1 h2 => do_167 hb h h1 h2, (List.forall_mem_cons.mpr ⟨fun _ _ _ _ _ hb h h1 h2 => do_153 hb h h1 h2, (List.forall_mem_cons.mpr ⟨fun _ _ _ _ _ hb h h1 h2 => do_154 hb h h1 h2, (List.forall_mem_cons.mpr ⟨fun _ _ _ _ _ hb h h1 h2 => do_162 hb h h1 h2, (List.forall_mem_cons.mpr ⟨fun _ _ _ _ _ hb h h1 h2 => do_160 hb h h1 h2, (List.forall_mem_cons.mpr ⟨fun _ _ _ _ _ hb h h1 h2 => do_155 hb h h1 h2, (List.forall_mem_cons.mpr ⟨fun _ _ _ _ _ hb h h1 h2 => do_158 hb h h1 h2, (List.forall_mem_cons.mpr ⟨fun _ _ _ _ _ hb h h1 h2 => do_156 hb h h1 h2, (List.forall_mem_cons.mpr ⟨fun _ _ _ _ _ hb h h1 h2 => do_163 hb h h1 h2, (List.forall_mem_cons.mpr ⟨fun _ _ _ _ _ hb h h1 h2 => do_164 hb h h1 h2, (List.forall_mem_cons.mpr ⟨fun _ _ _ _ _ hb h h1 h2 => do_159 hb h h1 h2, (List.forall_mem_cons.mpr ⟨fun _ _ _ _ _ hb h h1 h2 => do_157 hb h h1 h2, (List.forall_mem_cons.mpr ⟨fun _ _ _ _ _ hb h h1 h2 => do_17 hb h h1 h2, (List.forall_mem_cons.mpr ⟨fun _ _ _ _ _ hb h h1 h2 => do_161 hb h h1 h2, (List.forall_mem_cons.mpr ⟨fun _ _ _ _ _ hb h h1 h2 => do_199 hb h h1 h2, (fun _ h => absurd h List.not_mem_nil)⟩)⟩)⟩)⟩)⟩)⟩)⟩)⟩)⟩)⟩)⟩)⟩)⟩)⟩)⟩)
def fd1 : List UInt8 → Option (Instr × Nat)
  | [] => none
  | b :: r => match ft0.find? (fun e => e.1 == b.toNat) with
    | some e => some (e.2, 1)
    | none => match r with
      | [] => none
      | b1 :: r1 => match fu1.find? (fun e => e.1 == b.toNat) with
        | some e => some (e.2 b1.toNat, 2)
        | none => match fs1.find? (fun e => e.1 == b.toNat) with
          | some e => some (e.2 (Jvm.ClassFile.Reader.signed 8 b1.toNat), 2)
          | none => if b.toNat = 188 then (if b1.toNat = 10 then some (.newarray .int, 2) else if b1.toNat = 8 then some (.newarray .byte, 2) else none) else match r1 with
            | [] => none
            | b2 :: _ => match fu2.find? (fun e => e.1 == b.toNat) with
              | some e => some (e.2 (b1.toNat * 256 + b2.toNat), 3)
              | none => match fs2.find? (fun e => e.1 == b.toNat) with
                | some e => some (e.2 (Jvm.ClassFile.Reader.signed 16 (b1.toNat * 256 + b2.toNat)), 3)
                | none => if b.toNat = 132 then some (.iinc b1.toNat (Jvm.ClassFile.Reader.signed 8 b2.toNat), 3) else none
theorem fk_eq {α : Type} {L : List (Nat × α)} {n : Nat} {e : Nat × α} (h : L.find? (fun e => e.1 == n) = some e) : e ∈ L ∧ n = e.1 := by
  refine ⟨List.mem_of_find?_eq_some h, ?_⟩
  have := List.find?_some h
  exact (eq_of_beq this).symm
theorem fd1_ok {c : ByteArray} {p : Nat} {l : List UInt8} {i : Instr} {n : Nat} (hl : ∀ j : Nat, c.data[p + j]? = l[j]?) (h : fd1 l = some (i, n)) : decode c p = .ok (i, n) := by
  cases l with
  | nil => cases h
  | cons b r =>
    have h0 : c.data[p]? = some b := hl 0
    unfold fd1 at h
    dsimp only at h
    split at h
    · rename_i e he
      cases h
      obtain ⟨k1, k2⟩ := fk_eq he
      exact ft0_ok e k1 c p b k2 h0
    · split at h
      · cases h
      · rename_i b1 r1
        have h1 : c.data[p + 1]? = some b1 := hl 1
        split at h
        · rename_i e he
          cases h
          obtain ⟨k1, k2⟩ := fk_eq he
          exact fu1_ok e k1 c p b b1 k2 h0 h1
        · split at h
          · rename_i e he
            cases h
            obtain ⟨k1, k2⟩ := fk_eq he
            exact fs1_ok e k1 c p b b1 k2 h0 h1
          · split at h
            · rename_i h8
              split at h
              · rename_i h9
                cases h
                exact do_188_10 h8 h0 h1 h9
              · split at h
                · rename_i h9
                  cases h
                  exact do_188_8 h8 h0 h1 h9
                · cases h
            · split at h
              · cases h
              · rename_i b2 r2
                have h2 : c.data[p + 2]? = some b2 := hl 2
                split at h
                · rename_i e he
                  cases h
                  obtain ⟨k1, k2⟩ := fk_eq he
                  exact fu2_ok e k1 c p b b1 b2 k2 h0 h1 h2
                · split at h
                  · rename_i e he
                    cases h
                    obtain ⟨k1, k2⟩ := fk_eq he
                    exact fs2_ok e k1 c p b b1 b2 k2 h0 h1 h2
                  · split at h
                    · rename_i h8
                      cases h
                      exact do_132 h8 h0 h1 h2
                    · cases h
def fdk : List UInt8 → Nat → List (Nat × Instr × Nat) → Bool
  | _, _, [] => true
  | l, p, (q, i, n) :: r => (q == p) && (decide (fd1 l = some (i, n)) && fdk (l.drop n) (p + n) r)
theorem fdk_ok {c : ByteArray} : ∀ (L : List (Nat × Instr × Nat)) (l : List UInt8) (p : Nat), (∀ j : Nat, c.data[p + j]? = l[j]?) → fdk l p L = true → ∀ q ∈ L, decode c q.1 = .ok q.2
  | [], _, _, _, _, q, hq => absurd hq List.not_mem_nil
  | (q0, i, n) :: r, l, p, hl, h, q, hq => by
    unfold fdk at h
    rw [Bool.and_eq_true, Bool.and_eq_true] at h
    obtain ⟨h1, h2, h3⟩ := h
    obtain rfl : q0 = p := eq_of_beq h1
    rcases List.mem_cons.mp hq with rfl | hq
    · exact fd1_ok hl (of_decide_eq_true h2)
    · exact fdk_ok r (l.drop n) (q0 + n) (fun j => by rw [List.getElem?_drop, ← hl (n + j), Nat.add_assoc]) h3 q hq
theorem fdk_of {c : ByteArray} (p : Nat) {L : List (Nat × Instr × Nat)} (h : fdk (c.data.toList.drop p) p L = true) : ∀ q ∈ L, decode c q.1 = .ok q.2 :=
  fdk_ok L _ p (fun j => by rw [List.getElem?_drop, Array.getElem?_toList]) h
section NELC
variable {cl : List vw_C} {D : va_G} {ct : Nat → ClassId} {A : Nat → Prop} {n0 : Nat} {ad0 : Nat → Nat} {p : Program} {l : Launch} {e : Env} {R : Room} {s : State} {m : MethodId} {args : Array Value} {below : List Frame} {meth : Method} {c : Code} {Q : State → Prop} {own : String} {cc : ByteArray} {nL : Nat} {Ts : List Cond} {fr lo mc ms C S pc : Nat} {L : List (Option Value)} {st : List Value} {ws : ne_W}
theorem ne_lcif_eq {x y : Int} {off : Int} {tgt : Nat} (X : ne_F cl D ct A p l R s m args meth c own cc nL Ts fr lo mc ms) (hdg : decode cc pc = .ok (.lcmp, 1)) (hdi : decode cc (pc + 1) = .ok (.ifCond .eq off, 3)) (ht : ((pc + 1 : Nat) : Int) + off = (tgt : Int)) (hx : -9223372036854775808 ≤ x ∧ x < 9223372036854775808) (hy : -9223372036854775808 ≤ y ∧ y < 9223372036854775808) (kt : x = y → ne_G cl D ct A n0 ad0 p l e R s m args below meth c Q nL mc ms C S tgt L st ws) (kf : x ≠ y → ne_G cl D ct A n0 ad0 p l e R s m args below meth c Q nL mc ms C S (pc + 1 + 3) L st ws) : ne_G cl D ct A n0 ad0 p l e R s m args below meth c Q nL mc ms C S pc L (nl y :: nl x :: st) ws :=
  ne_lcmp X hdg hx hy (fun z l r a b => ne_if_eq X hdi ht ⟨by omega, by omega⟩ (fun h => kt (by omega)) (fun h => kf (by omega)))
theorem ne_lcif_ne {x y : Int} {off : Int} {tgt : Nat} (X : ne_F cl D ct A p l R s m args meth c own cc nL Ts fr lo mc ms) (hdg : decode cc pc = .ok (.lcmp, 1)) (hdi : decode cc (pc + 1) = .ok (.ifCond .ne off, 3)) (ht : ((pc + 1 : Nat) : Int) + off = (tgt : Int)) (hx : -9223372036854775808 ≤ x ∧ x < 9223372036854775808) (hy : -9223372036854775808 ≤ y ∧ y < 9223372036854775808) (kt : x ≠ y → ne_G cl D ct A n0 ad0 p l e R s m args below meth c Q nL mc ms C S tgt L st ws) (kf : x = y → ne_G cl D ct A n0 ad0 p l e R s m args below meth c Q nL mc ms C S (pc + 1 + 3) L st ws) : ne_G cl D ct A n0 ad0 p l e R s m args below meth c Q nL mc ms C S pc L (nl y :: nl x :: st) ws :=
  ne_lcmp X hdg hx hy (fun z l r a b => ne_if_ne X hdi ht ⟨by omega, by omega⟩ (fun h => kt (by omega)) (fun h => kf (by omega)))
theorem ne_lcif_lt {x y : Int} {off : Int} {tgt : Nat} (X : ne_F cl D ct A p l R s m args meth c own cc nL Ts fr lo mc ms) (hdg : decode cc pc = .ok (.lcmp, 1)) (hdi : decode cc (pc + 1) = .ok (.ifCond .lt off, 3)) (ht : ((pc + 1 : Nat) : Int) + off = (tgt : Int)) (hx : -9223372036854775808 ≤ x ∧ x < 9223372036854775808) (hy : -9223372036854775808 ≤ y ∧ y < 9223372036854775808) (kt : x < y → ne_G cl D ct A n0 ad0 p l e R s m args below meth c Q nL mc ms C S tgt L st ws) (kf : y ≤ x → ne_G cl D ct A n0 ad0 p l e R s m args below meth c Q nL mc ms C S (pc + 1 + 3) L st ws) : ne_G cl D ct A n0 ad0 p l e R s m args below meth c Q nL mc ms C S pc L (nl y :: nl x :: st) ws :=
  ne_lcmp X hdg hx hy (fun z l r a b => ne_if_lt X hdi ht ⟨by omega, by omega⟩ (fun h => kt (by omega)) (fun h => kf (by omega)))
theorem ne_lcif_ge {x y : Int} {off : Int} {tgt : Nat} (X : ne_F cl D ct A p l R s m args meth c own cc nL Ts fr lo mc ms) (hdg : decode cc pc = .ok (.lcmp, 1)) (hdi : decode cc (pc + 1) = .ok (.ifCond .ge off, 3)) (ht : ((pc + 1 : Nat) : Int) + off = (tgt : Int)) (hx : -9223372036854775808 ≤ x ∧ x < 9223372036854775808) (hy : -9223372036854775808 ≤ y ∧ y < 9223372036854775808) (kt : y ≤ x → ne_G cl D ct A n0 ad0 p l e R s m args below meth c Q nL mc ms C S tgt L st ws) (kf : x < y → ne_G cl D ct A n0 ad0 p l e R s m args below meth c Q nL mc ms C S (pc + 1 + 3) L st ws) : ne_G cl D ct A n0 ad0 p l e R s m args below meth c Q nL mc ms C S pc L (nl y :: nl x :: st) ws :=
  ne_lcmp X hdg hx hy (fun z l r a b => ne_if_ge X hdi ht ⟨by omega, by omega⟩ (fun h => kt (by omega)) (fun h => kf (by omega)))
theorem ne_lcif_gt {x y : Int} {off : Int} {tgt : Nat} (X : ne_F cl D ct A p l R s m args meth c own cc nL Ts fr lo mc ms) (hdg : decode cc pc = .ok (.lcmp, 1)) (hdi : decode cc (pc + 1) = .ok (.ifCond .gt off, 3)) (ht : ((pc + 1 : Nat) : Int) + off = (tgt : Int)) (hx : -9223372036854775808 ≤ x ∧ x < 9223372036854775808) (hy : -9223372036854775808 ≤ y ∧ y < 9223372036854775808) (kt : y < x → ne_G cl D ct A n0 ad0 p l e R s m args below meth c Q nL mc ms C S tgt L st ws) (kf : x ≤ y → ne_G cl D ct A n0 ad0 p l e R s m args below meth c Q nL mc ms C S (pc + 1 + 3) L st ws) : ne_G cl D ct A n0 ad0 p l e R s m args below meth c Q nL mc ms C S pc L (nl y :: nl x :: st) ws :=
  ne_lcmp X hdg hx hy (fun z l r a b => ne_if_gt X hdi ht ⟨by omega, by omega⟩ (fun h => kt (by omega)) (fun h => kf (by omega)))
theorem ne_lcif_le {x y : Int} {off : Int} {tgt : Nat} (X : ne_F cl D ct A p l R s m args meth c own cc nL Ts fr lo mc ms) (hdg : decode cc pc = .ok (.lcmp, 1)) (hdi : decode cc (pc + 1) = .ok (.ifCond .le off, 3)) (ht : ((pc + 1 : Nat) : Int) + off = (tgt : Int)) (hx : -9223372036854775808 ≤ x ∧ x < 9223372036854775808) (hy : -9223372036854775808 ≤ y ∧ y < 9223372036854775808) (kt : x ≤ y → ne_G cl D ct A n0 ad0 p l e R s m args below meth c Q nL mc ms C S tgt L st ws) (kf : y < x → ne_G cl D ct A n0 ad0 p l e R s m args below meth c Q nL mc ms C S (pc + 1 + 3) L st ws) : ne_G cl D ct A n0 ad0 p l e R s m args below meth c Q nL mc ms C S pc L (nl y :: nl x :: st) ws :=
  ne_lcmp X hdg hx hy (fun z l r a b => ne_if_le X hdi ht ⟨by omega, by omega⟩ (fun h => kt (by omega)) (fun h => kf (by omega)))
theorem ne_ll {L' : List (Option Value)} (h : L = L') (kk : ne_G cl D ct A n0 ad0 p l e R s m args below meth c Q nL mc ms C S pc L' st ws) : ne_G cl D ct A n0 ad0 p l e R s m args below meth c Q nL mc ms C S pc L st ws := by rw [h]; exact kk
end NELC
