abbrev DR (c : ByteArray) (pc : Nat) (i : Jvm.ClassFile.Instr) (n : Nat) : Prop := decode c pc = .ok (i, n)
def bA (c : ByteArray) (p : Nat) : Nat := if h : p < c.size then (c[p]'h).toNat else 256
theorem dk_bind {α β : Type} {r : Jvm.ClassFile.Decoder α} {f : α → Jvm.ClassFile.Decoder β} {c : ByteArray} {p q : Nat} {a : α} (h : Jvm.ClassFile.Reader.runAt r c p = .ok (a, q)) : Jvm.ClassFile.Reader.runAt (r >>= f) c p = Jvm.ClassFile.Reader.runAt (f a) c q := by
  have e : Jvm.ClassFile.Reader.runAt (r >>= f) c p = Except.bind (Jvm.ClassFile.Reader.runAt r c p) (fun v => Jvm.ClassFile.Reader.runAt (f v.1) c v.2) := rfl
  rw [e, h]
  rfl
theorem dk_map {α β : Type} {r : Jvm.ClassFile.Decoder α} {f : α → β} {c : ByteArray} {p q : Nat} {a : α} (h : Jvm.ClassFile.Reader.runAt r c p = .ok (a, q)) : Jvm.ClassFile.Reader.runAt (f <$> r) c p = .ok (f a, q) := by
  have e : Jvm.ClassFile.Reader.runAt (f <$> r) c p = Except.bind (Jvm.ClassFile.Reader.runAt r c p) (fun v => .ok (f v.1, v.2)) := rfl
  rw [e, h]
  rfl
theorem bA_u1 {c : ByteArray} {p b : Nat} (h : bA c p = b) (hb : b < 256) : Jvm.ClassFile.Reader.runAt (Jvm.ClassFile.Reader.u1 : Jvm.ClassFile.Decoder Nat) c p = .ok (b, p + 1) := by
  unfold bA at h
  by_cases hl : p < c.size
  · rw [dif_pos hl] at h
    have e : Jvm.ClassFile.Reader.runAt (Jvm.ClassFile.Reader.u1 : Jvm.ClassFile.Decoder Nat) c p = Jvm.ClassFile.Reader.runAt (if h : p < c.size then (do set (p + 1); pure (c[p]'h).toNat : Jvm.ClassFile.Decoder Nat) else throw (Jvm.ClassFile.HasTruncated.truncated p)) c p := rfl
    rw [e, dif_pos hl]
    show Except.ok ((c[p]'hl).toNat, p + 1) = _
    rw [h]
  · rw [dif_neg hl] at h; omega
theorem bA_s1 {c : ByteArray} {p b : Nat} {v : Int} (h : bA c p = b) (hb : b < 256) (hv : Jvm.ClassFile.Reader.signed 8 b = v) : Jvm.ClassFile.Reader.runAt (Jvm.ClassFile.Reader.s1 : Jvm.ClassFile.Decoder Int) c p = .ok (v, p + 1) := by
  rw [show (Jvm.ClassFile.Reader.s1 : Jvm.ClassFile.Decoder Int) = Jvm.ClassFile.Reader.signed 8 <$> (Jvm.ClassFile.Reader.u1 : Jvm.ClassFile.Decoder Nat) from rfl, dk_map (bA_u1 h hb), hv]
theorem bA_u2 {c : ByteArray} {p hi lo v : Nat} (h1 : bA c p = hi) (h2 : bA c (p + 1) = lo) (hb : hi < 256 ∧ lo < 256) (hv : hi * 256 + lo = v) : Jvm.ClassFile.Reader.runAt (Jvm.ClassFile.Reader.u2 : Jvm.ClassFile.Decoder Nat) c p = .ok (v, p + 2) := by
  have e : Jvm.ClassFile.Reader.runAt (Jvm.ClassFile.Reader.u2 : Jvm.ClassFile.Decoder Nat) c p = Jvm.ClassFile.Reader.runAt ((Jvm.ClassFile.Reader.u1 : Jvm.ClassFile.Decoder Nat) >>= fun x => (Jvm.ClassFile.Reader.u1 : Jvm.ClassFile.Decoder Nat) >>= fun y => pure (x * 256 + y)) c p := rfl
  rw [e, dk_bind (bA_u1 h1 hb.1), dk_bind (bA_u1 h2 hb.2)]
  show Except.ok (hi * 256 + lo, p + 1 + 1) = _
  rw [hv]
theorem bA_s2 {c : ByteArray} {p hi lo : Nat} {v : Int} (h1 : bA c p = hi) (h2 : bA c (p + 1) = lo) (hb : hi < 256 ∧ lo < 256) (hv : Jvm.ClassFile.Reader.signed 16 (hi * 256 + lo) = v) : Jvm.ClassFile.Reader.runAt (Jvm.ClassFile.Reader.s2 : Jvm.ClassFile.Decoder Int) c p = .ok (v, p + 2) := by
  rw [show (Jvm.ClassFile.Reader.s2 : Jvm.ClassFile.Decoder Int) = Jvm.ClassFile.Reader.signed 16 <$> (Jvm.ClassFile.Reader.u2 : Jvm.ClassFile.Decoder Nat) from rfl, dk_map (bA_u2 h1 h2 hb rfl), hv]
theorem dk_of {c : ByteArray} {pc n : Nat} {i : Jvm.ClassFile.Instr} (h : Jvm.ClassFile.Reader.runAt (Jvm.ClassFile.Decoder.instr pc) c pc = .ok (i, pc + n)) : DR c pc i n := by
  show Jvm.ClassFile.decode c pc = _
  unfold Jvm.ClassFile.decode
  rw [h]
  show Except.ok (i, pc + n - pc) = _
  rw [Nat.add_sub_cancel_left]
theorem bA_sl {c : ByteArray} {a m j v : Nat} {l : List Nat} (h : ((c.data.toList.drop a).take m).map UInt8.toNat = l) (hj : l[j]? = some v) : bA c (a + j) = v := by
  rw [← h, List.getElem?_map] at hj
  obtain ⟨b, hb, e⟩ := Option.map_eq_some_iff.mp hj
  rw [List.getElem?_take] at hb
  split at hb
  · rw [List.getElem?_drop] at hb
    obtain ⟨hl, e2⟩ := List.getElem?_eq_some_iff.mp hb
    have hs : a + j < c.size := by
      show a + j < c.data.size
      rw [← Array.length_toList]; exact hl
    unfold bA
    rw [dif_pos hs]
    show (c.data[a + j]'hs).toNat = v
    rw [← e, ← e2, Array.getElem_toList]
  · cases hb
theorem dk_2 {c : ByteArray} {pc : Nat} (h : bA c pc = 2) : DR c pc (.iconst (-1)) 1 := dk_of (by
  unfold Jvm.ClassFile.Decoder.instr
  rw [dk_bind (bA_u1 h (by decide))]
  rfl)
theorem dk_3 {c : ByteArray} {pc : Nat} (h : bA c pc = 3) : DR c pc (.iconst 0) 1 := dk_of (by
  unfold Jvm.ClassFile.Decoder.instr
  rw [dk_bind (bA_u1 h (by decide))]
  rfl)
theorem dk_4 {c : ByteArray} {pc : Nat} (h : bA c pc = 4) : DR c pc (.iconst 1) 1 := dk_of (by
  unfold Jvm.ClassFile.Decoder.instr
  rw [dk_bind (bA_u1 h (by decide))]
  rfl)
theorem dk_5 {c : ByteArray} {pc : Nat} (h : bA c pc = 5) : DR c pc (.iconst 2) 1 := dk_of (by
  unfold Jvm.ClassFile.Decoder.instr
  rw [dk_bind (bA_u1 h (by decide))]
  rfl)
theorem dk_6 {c : ByteArray} {pc : Nat} (h : bA c pc = 6) : DR c pc (.iconst 3) 1 := dk_of (by
  unfold Jvm.ClassFile.Decoder.instr
  rw [dk_bind (bA_u1 h (by decide))]
  rfl)
theorem dk_7 {c : ByteArray} {pc : Nat} (h : bA c pc = 7) : DR c pc (.iconst 4) 1 := dk_of (by
  unfold Jvm.ClassFile.Decoder.instr
  rw [dk_bind (bA_u1 h (by decide))]
  rfl)
theorem dk_8 {c : ByteArray} {pc : Nat} (h : bA c pc = 8) : DR c pc (.iconst 5) 1 := dk_of (by
  unfold Jvm.ClassFile.Decoder.instr
  rw [dk_bind (bA_u1 h (by decide))]
  rfl)
theorem dk_9 {c : ByteArray} {pc : Nat} (h : bA c pc = 9) : DR c pc (.lconst 0) 1 := dk_of (by
  unfold Jvm.ClassFile.Decoder.instr
  rw [dk_bind (bA_u1 h (by decide))]
  rfl)
theorem dk_10 {c : ByteArray} {pc : Nat} (h : bA c pc = 10) : DR c pc (.lconst 1) 1 := dk_of (by
  unfold Jvm.ClassFile.Decoder.instr
  rw [dk_bind (bA_u1 h (by decide))]
  rfl)
theorem dk_16 {c : ByteArray} {pc b : Nat} {v : Int} (h : bA c pc = 16) (h1 : bA c (pc + 1) = b) (hb : b < 256) (hv : Jvm.ClassFile.Reader.signed 8 b = v) : DR c pc (.bipush v) 2 := dk_of (by
  unfold Jvm.ClassFile.Decoder.instr
  rw [dk_bind (bA_u1 h (by decide))]
  show Jvm.ClassFile.Reader.runAt ((Jvm.ClassFile.Reader.s1 : Jvm.ClassFile.Decoder Int) >>= fun x => pure (Jvm.ClassFile.Instr.bipush x)) c (pc + 1) = _
  rw [dk_bind (bA_s1 h1 hb hv)]
  rfl)
theorem dk_17 {c : ByteArray} {pc hi lo : Nat} {v : Int} (h : bA c pc = 17) (h1 : bA c (pc + 1) = hi) (h2 : bA c (pc + 1 + 1) = lo) (hb : hi < 256 ∧ lo < 256) (hv : Jvm.ClassFile.Reader.signed 16 (hi * 256 + lo) = v) : DR c pc (.sipush v) 3 := dk_of (by
  unfold Jvm.ClassFile.Decoder.instr
  rw [dk_bind (bA_u1 h (by decide))]
  show Jvm.ClassFile.Reader.runAt ((Jvm.ClassFile.Reader.s2 : Jvm.ClassFile.Decoder Int) >>= fun x => pure (Jvm.ClassFile.Instr.sipush x)) c (pc + 1) = _
  rw [dk_bind (bA_s2 h1 h2 hb hv)]
  rfl)
theorem dk_18 {c : ByteArray} {pc b : Nat} (h : bA c pc = 18) (h1 : bA c (pc + 1) = b) (hb : b < 256) : DR c pc (.ldc b) 2 := dk_of (by
  unfold Jvm.ClassFile.Decoder.instr
  rw [dk_bind (bA_u1 h (by decide))]
  show Jvm.ClassFile.Reader.runAt ((Jvm.ClassFile.Reader.u1 : Jvm.ClassFile.Decoder Nat) >>= fun x => pure (Jvm.ClassFile.Instr.ldc x)) c (pc + 1) = _
  rw [dk_bind (bA_u1 h1 hb)]
  rfl)
theorem dk_19 {c : ByteArray} {pc hi lo : Nat} {v : Nat} (h : bA c pc = 19) (h1 : bA c (pc + 1) = hi) (h2 : bA c (pc + 1 + 1) = lo) (hb : hi < 256 ∧ lo < 256) (hv : hi * 256 + lo = v) : DR c pc (.ldc_w v) 3 := dk_of (by
  unfold Jvm.ClassFile.Decoder.instr
  rw [dk_bind (bA_u1 h (by decide))]
  show Jvm.ClassFile.Reader.runAt ((Jvm.ClassFile.Reader.u2 : Jvm.ClassFile.Decoder Nat) >>= fun x => pure (Jvm.ClassFile.Instr.ldc_w x)) c (pc + 1) = _
  rw [dk_bind (bA_u2 h1 h2 hb hv)]
  rfl)
theorem dk_20 {c : ByteArray} {pc hi lo : Nat} {v : Nat} (h : bA c pc = 20) (h1 : bA c (pc + 1) = hi) (h2 : bA c (pc + 1 + 1) = lo) (hb : hi < 256 ∧ lo < 256) (hv : hi * 256 + lo = v) : DR c pc (.ldc2_w v) 3 := dk_of (by
  unfold Jvm.ClassFile.Decoder.instr
  rw [dk_bind (bA_u1 h (by decide))]
  show Jvm.ClassFile.Reader.runAt ((Jvm.ClassFile.Reader.u2 : Jvm.ClassFile.Decoder Nat) >>= fun x => pure (Jvm.ClassFile.Instr.ldc2_w x)) c (pc + 1) = _
  rw [dk_bind (bA_u2 h1 h2 hb hv)]
  rfl)
theorem dk_21 {c : ByteArray} {pc b : Nat} (h : bA c pc = 21) (h1 : bA c (pc + 1) = b) (hb : b < 256) : DR c pc (.iload b) 2 := dk_of (by
  unfold Jvm.ClassFile.Decoder.instr
  rw [dk_bind (bA_u1 h (by decide))]
  show Jvm.ClassFile.Reader.runAt ((Jvm.ClassFile.Reader.u1 : Jvm.ClassFile.Decoder Nat) >>= fun x => pure (Jvm.ClassFile.Instr.iload x)) c (pc + 1) = _
  rw [dk_bind (bA_u1 h1 hb)]
  rfl)
theorem dk_22 {c : ByteArray} {pc b : Nat} (h : bA c pc = 22) (h1 : bA c (pc + 1) = b) (hb : b < 256) : DR c pc (.lload b) 2 := dk_of (by
  unfold Jvm.ClassFile.Decoder.instr
  rw [dk_bind (bA_u1 h (by decide))]
  show Jvm.ClassFile.Reader.runAt ((Jvm.ClassFile.Reader.u1 : Jvm.ClassFile.Decoder Nat) >>= fun x => pure (Jvm.ClassFile.Instr.lload x)) c (pc + 1) = _
  rw [dk_bind (bA_u1 h1 hb)]
  rfl)
theorem dk_25 {c : ByteArray} {pc b : Nat} (h : bA c pc = 25) (h1 : bA c (pc + 1) = b) (hb : b < 256) : DR c pc (.aload b) 2 := dk_of (by
  unfold Jvm.ClassFile.Decoder.instr
  rw [dk_bind (bA_u1 h (by decide))]
  show Jvm.ClassFile.Reader.runAt ((Jvm.ClassFile.Reader.u1 : Jvm.ClassFile.Decoder Nat) >>= fun x => pure (Jvm.ClassFile.Instr.aload x)) c (pc + 1) = _
  rw [dk_bind (bA_u1 h1 hb)]
  rfl)
theorem dk_26 {c : ByteArray} {pc : Nat} (h : bA c pc = 26) : DR c pc (.iload_n 0) 1 := dk_of (by
  unfold Jvm.ClassFile.Decoder.instr
  rw [dk_bind (bA_u1 h (by decide))]
  rfl)
theorem dk_27 {c : ByteArray} {pc : Nat} (h : bA c pc = 27) : DR c pc (.iload_n 1) 1 := dk_of (by
  unfold Jvm.ClassFile.Decoder.instr
  rw [dk_bind (bA_u1 h (by decide))]
  rfl)
theorem dk_28 {c : ByteArray} {pc : Nat} (h : bA c pc = 28) : DR c pc (.iload_n 2) 1 := dk_of (by
  unfold Jvm.ClassFile.Decoder.instr
  rw [dk_bind (bA_u1 h (by decide))]
  rfl)
theorem dk_29 {c : ByteArray} {pc : Nat} (h : bA c pc = 29) : DR c pc (.iload_n 3) 1 := dk_of (by
  unfold Jvm.ClassFile.Decoder.instr
  rw [dk_bind (bA_u1 h (by decide))]
  rfl)
theorem dk_30 {c : ByteArray} {pc : Nat} (h : bA c pc = 30) : DR c pc (.lload_n 0) 1 := dk_of (by
  unfold Jvm.ClassFile.Decoder.instr
  rw [dk_bind (bA_u1 h (by decide))]
  rfl)
theorem dk_31 {c : ByteArray} {pc : Nat} (h : bA c pc = 31) : DR c pc (.lload_n 1) 1 := dk_of (by
  unfold Jvm.ClassFile.Decoder.instr
  rw [dk_bind (bA_u1 h (by decide))]
  rfl)
theorem dk_32 {c : ByteArray} {pc : Nat} (h : bA c pc = 32) : DR c pc (.lload_n 2) 1 := dk_of (by
  unfold Jvm.ClassFile.Decoder.instr
  rw [dk_bind (bA_u1 h (by decide))]
  rfl)
theorem dk_33 {c : ByteArray} {pc : Nat} (h : bA c pc = 33) : DR c pc (.lload_n 3) 1 := dk_of (by
  unfold Jvm.ClassFile.Decoder.instr
  rw [dk_bind (bA_u1 h (by decide))]
  rfl)
theorem dk_42 {c : ByteArray} {pc : Nat} (h : bA c pc = 42) : DR c pc (.aload_n 0) 1 := dk_of (by
  unfold Jvm.ClassFile.Decoder.instr
  rw [dk_bind (bA_u1 h (by decide))]
  rfl)
theorem dk_43 {c : ByteArray} {pc : Nat} (h : bA c pc = 43) : DR c pc (.aload_n 1) 1 := dk_of (by
  unfold Jvm.ClassFile.Decoder.instr
  rw [dk_bind (bA_u1 h (by decide))]
  rfl)
theorem dk_44 {c : ByteArray} {pc : Nat} (h : bA c pc = 44) : DR c pc (.aload_n 2) 1 := dk_of (by
  unfold Jvm.ClassFile.Decoder.instr
  rw [dk_bind (bA_u1 h (by decide))]
  rfl)
theorem dk_45 {c : ByteArray} {pc : Nat} (h : bA c pc = 45) : DR c pc (.aload_n 3) 1 := dk_of (by
  unfold Jvm.ClassFile.Decoder.instr
  rw [dk_bind (bA_u1 h (by decide))]
  rfl)
theorem dk_46 {c : ByteArray} {pc : Nat} (h : bA c pc = 46) : DR c pc (.iaload) 1 := dk_of (by
  unfold Jvm.ClassFile.Decoder.instr
  rw [dk_bind (bA_u1 h (by decide))]
  rfl)
theorem dk_47 {c : ByteArray} {pc : Nat} (h : bA c pc = 47) : DR c pc (.laload) 1 := dk_of (by
  unfold Jvm.ClassFile.Decoder.instr
  rw [dk_bind (bA_u1 h (by decide))]
  rfl)
theorem dk_50 {c : ByteArray} {pc : Nat} (h : bA c pc = 50) : DR c pc (.aaload) 1 := dk_of (by
  unfold Jvm.ClassFile.Decoder.instr
  rw [dk_bind (bA_u1 h (by decide))]
  rfl)
theorem dk_51 {c : ByteArray} {pc : Nat} (h : bA c pc = 51) : DR c pc (.baload) 1 := dk_of (by
  unfold Jvm.ClassFile.Decoder.instr
  rw [dk_bind (bA_u1 h (by decide))]
  rfl)
theorem dk_54 {c : ByteArray} {pc b : Nat} (h : bA c pc = 54) (h1 : bA c (pc + 1) = b) (hb : b < 256) : DR c pc (.istore b) 2 := dk_of (by
  unfold Jvm.ClassFile.Decoder.instr
  rw [dk_bind (bA_u1 h (by decide))]
  show Jvm.ClassFile.Reader.runAt ((Jvm.ClassFile.Reader.u1 : Jvm.ClassFile.Decoder Nat) >>= fun x => pure (Jvm.ClassFile.Instr.istore x)) c (pc + 1) = _
  rw [dk_bind (bA_u1 h1 hb)]
  rfl)
theorem dk_55 {c : ByteArray} {pc b : Nat} (h : bA c pc = 55) (h1 : bA c (pc + 1) = b) (hb : b < 256) : DR c pc (.lstore b) 2 := dk_of (by
  unfold Jvm.ClassFile.Decoder.instr
  rw [dk_bind (bA_u1 h (by decide))]
  show Jvm.ClassFile.Reader.runAt ((Jvm.ClassFile.Reader.u1 : Jvm.ClassFile.Decoder Nat) >>= fun x => pure (Jvm.ClassFile.Instr.lstore x)) c (pc + 1) = _
  rw [dk_bind (bA_u1 h1 hb)]
  rfl)
theorem dk_58 {c : ByteArray} {pc b : Nat} (h : bA c pc = 58) (h1 : bA c (pc + 1) = b) (hb : b < 256) : DR c pc (.astore b) 2 := dk_of (by
  unfold Jvm.ClassFile.Decoder.instr
  rw [dk_bind (bA_u1 h (by decide))]
  show Jvm.ClassFile.Reader.runAt ((Jvm.ClassFile.Reader.u1 : Jvm.ClassFile.Decoder Nat) >>= fun x => pure (Jvm.ClassFile.Instr.astore x)) c (pc + 1) = _
  rw [dk_bind (bA_u1 h1 hb)]
  rfl)
theorem dk_59 {c : ByteArray} {pc : Nat} (h : bA c pc = 59) : DR c pc (.istore_n 0) 1 := dk_of (by
  unfold Jvm.ClassFile.Decoder.instr
  rw [dk_bind (bA_u1 h (by decide))]
  rfl)
theorem dk_60 {c : ByteArray} {pc : Nat} (h : bA c pc = 60) : DR c pc (.istore_n 1) 1 := dk_of (by
  unfold Jvm.ClassFile.Decoder.instr
  rw [dk_bind (bA_u1 h (by decide))]
  rfl)
theorem dk_61 {c : ByteArray} {pc : Nat} (h : bA c pc = 61) : DR c pc (.istore_n 2) 1 := dk_of (by
  unfold Jvm.ClassFile.Decoder.instr
  rw [dk_bind (bA_u1 h (by decide))]
  rfl)
theorem dk_62 {c : ByteArray} {pc : Nat} (h : bA c pc = 62) : DR c pc (.istore_n 3) 1 := dk_of (by
  unfold Jvm.ClassFile.Decoder.instr
  rw [dk_bind (bA_u1 h (by decide))]
  rfl)
theorem dk_65 {c : ByteArray} {pc : Nat} (h : bA c pc = 65) : DR c pc (.lstore_n 2) 1 := dk_of (by
  unfold Jvm.ClassFile.Decoder.instr
  rw [dk_bind (bA_u1 h (by decide))]
  rfl)
theorem dk_66 {c : ByteArray} {pc : Nat} (h : bA c pc = 66) : DR c pc (.lstore_n 3) 1 := dk_of (by
  unfold Jvm.ClassFile.Decoder.instr
  rw [dk_bind (bA_u1 h (by decide))]
  rfl)
theorem dk_76 {c : ByteArray} {pc : Nat} (h : bA c pc = 76) : DR c pc (.astore_n 1) 1 := dk_of (by
  unfold Jvm.ClassFile.Decoder.instr
  rw [dk_bind (bA_u1 h (by decide))]
  rfl)
theorem dk_77 {c : ByteArray} {pc : Nat} (h : bA c pc = 77) : DR c pc (.astore_n 2) 1 := dk_of (by
  unfold Jvm.ClassFile.Decoder.instr
  rw [dk_bind (bA_u1 h (by decide))]
  rfl)
theorem dk_78 {c : ByteArray} {pc : Nat} (h : bA c pc = 78) : DR c pc (.astore_n 3) 1 := dk_of (by
  unfold Jvm.ClassFile.Decoder.instr
  rw [dk_bind (bA_u1 h (by decide))]
  rfl)
theorem dk_79 {c : ByteArray} {pc : Nat} (h : bA c pc = 79) : DR c pc (.iastore) 1 := dk_of (by
  unfold Jvm.ClassFile.Decoder.instr
  rw [dk_bind (bA_u1 h (by decide))]
  rfl)
theorem dk_80 {c : ByteArray} {pc : Nat} (h : bA c pc = 80) : DR c pc (.lastore) 1 := dk_of (by
  unfold Jvm.ClassFile.Decoder.instr
  rw [dk_bind (bA_u1 h (by decide))]
  rfl)
theorem dk_83 {c : ByteArray} {pc : Nat} (h : bA c pc = 83) : DR c pc (.aastore) 1 := dk_of (by
  unfold Jvm.ClassFile.Decoder.instr
  rw [dk_bind (bA_u1 h (by decide))]
  rfl)
theorem dk_84 {c : ByteArray} {pc : Nat} (h : bA c pc = 84) : DR c pc (.bastore) 1 := dk_of (by
  unfold Jvm.ClassFile.Decoder.instr
  rw [dk_bind (bA_u1 h (by decide))]
  rfl)
theorem dk_87 {c : ByteArray} {pc : Nat} (h : bA c pc = 87) : DR c pc (.pop) 1 := dk_of (by
  unfold Jvm.ClassFile.Decoder.instr
  rw [dk_bind (bA_u1 h (by decide))]
  rfl)
theorem dk_88 {c : ByteArray} {pc : Nat} (h : bA c pc = 88) : DR c pc (.pop2) 1 := dk_of (by
  unfold Jvm.ClassFile.Decoder.instr
  rw [dk_bind (bA_u1 h (by decide))]
  rfl)
theorem dk_89 {c : ByteArray} {pc : Nat} (h : bA c pc = 89) : DR c pc (.dup) 1 := dk_of (by
  unfold Jvm.ClassFile.Decoder.instr
  rw [dk_bind (bA_u1 h (by decide))]
  rfl)
theorem dk_92 {c : ByteArray} {pc : Nat} (h : bA c pc = 92) : DR c pc (.dup2) 1 := dk_of (by
  unfold Jvm.ClassFile.Decoder.instr
  rw [dk_bind (bA_u1 h (by decide))]
  rfl)
theorem dk_96 {c : ByteArray} {pc : Nat} (h : bA c pc = 96) : DR c pc (.iadd) 1 := dk_of (by
  unfold Jvm.ClassFile.Decoder.instr
  rw [dk_bind (bA_u1 h (by decide))]
  rfl)
theorem dk_97 {c : ByteArray} {pc : Nat} (h : bA c pc = 97) : DR c pc (.ladd) 1 := dk_of (by
  unfold Jvm.ClassFile.Decoder.instr
  rw [dk_bind (bA_u1 h (by decide))]
  rfl)
theorem dk_100 {c : ByteArray} {pc : Nat} (h : bA c pc = 100) : DR c pc (.isub) 1 := dk_of (by
  unfold Jvm.ClassFile.Decoder.instr
  rw [dk_bind (bA_u1 h (by decide))]
  rfl)
theorem dk_104 {c : ByteArray} {pc : Nat} (h : bA c pc = 104) : DR c pc (.imul) 1 := dk_of (by
  unfold Jvm.ClassFile.Decoder.instr
  rw [dk_bind (bA_u1 h (by decide))]
  rfl)
theorem dk_105 {c : ByteArray} {pc : Nat} (h : bA c pc = 105) : DR c pc (.lmul) 1 := dk_of (by
  unfold Jvm.ClassFile.Decoder.instr
  rw [dk_bind (bA_u1 h (by decide))]
  rfl)
theorem dk_108 {c : ByteArray} {pc : Nat} (h : bA c pc = 108) : DR c pc (.idiv) 1 := dk_of (by
  unfold Jvm.ClassFile.Decoder.instr
  rw [dk_bind (bA_u1 h (by decide))]
  rfl)
theorem dk_112 {c : ByteArray} {pc : Nat} (h : bA c pc = 112) : DR c pc (.irem) 1 := dk_of (by
  unfold Jvm.ClassFile.Decoder.instr
  rw [dk_bind (bA_u1 h (by decide))]
  rfl)
theorem dk_116 {c : ByteArray} {pc : Nat} (h : bA c pc = 116) : DR c pc (.ineg) 1 := dk_of (by
  unfold Jvm.ClassFile.Decoder.instr
  rw [dk_bind (bA_u1 h (by decide))]
  rfl)
theorem dk_120 {c : ByteArray} {pc : Nat} (h : bA c pc = 120) : DR c pc (.ishl) 1 := dk_of (by
  unfold Jvm.ClassFile.Decoder.instr
  rw [dk_bind (bA_u1 h (by decide))]
  rfl)
theorem dk_121 {c : ByteArray} {pc : Nat} (h : bA c pc = 121) : DR c pc (.lshl) 1 := dk_of (by
  unfold Jvm.ClassFile.Decoder.instr
  rw [dk_bind (bA_u1 h (by decide))]
  rfl)
theorem dk_122 {c : ByteArray} {pc : Nat} (h : bA c pc = 122) : DR c pc (.ishr) 1 := dk_of (by
  unfold Jvm.ClassFile.Decoder.instr
  rw [dk_bind (bA_u1 h (by decide))]
  rfl)
theorem dk_124 {c : ByteArray} {pc : Nat} (h : bA c pc = 124) : DR c pc (.iushr) 1 := dk_of (by
  unfold Jvm.ClassFile.Decoder.instr
  rw [dk_bind (bA_u1 h (by decide))]
  rfl)
theorem dk_125 {c : ByteArray} {pc : Nat} (h : bA c pc = 125) : DR c pc (.lushr) 1 := dk_of (by
  unfold Jvm.ClassFile.Decoder.instr
  rw [dk_bind (bA_u1 h (by decide))]
  rfl)
theorem dk_126 {c : ByteArray} {pc : Nat} (h : bA c pc = 126) : DR c pc (.iand) 1 := dk_of (by
  unfold Jvm.ClassFile.Decoder.instr
  rw [dk_bind (bA_u1 h (by decide))]
  rfl)
theorem dk_127 {c : ByteArray} {pc : Nat} (h : bA c pc = 127) : DR c pc (.land) 1 := dk_of (by
  unfold Jvm.ClassFile.Decoder.instr
  rw [dk_bind (bA_u1 h (by decide))]
  rfl)
theorem dk_128 {c : ByteArray} {pc : Nat} (h : bA c pc = 128) : DR c pc (.ior) 1 := dk_of (by
  unfold Jvm.ClassFile.Decoder.instr
  rw [dk_bind (bA_u1 h (by decide))]
  rfl)
theorem dk_129 {c : ByteArray} {pc : Nat} (h : bA c pc = 129) : DR c pc (.lor) 1 := dk_of (by
  unfold Jvm.ClassFile.Decoder.instr
  rw [dk_bind (bA_u1 h (by decide))]
  rfl)
theorem dk_130 {c : ByteArray} {pc : Nat} (h : bA c pc = 130) : DR c pc (.ixor) 1 := dk_of (by
  unfold Jvm.ClassFile.Decoder.instr
  rw [dk_bind (bA_u1 h (by decide))]
  rfl)
theorem dk_132 {c : ByteArray} {pc x b : Nat} {v : Int} (h : bA c pc = 132) (h1 : bA c (pc + 1) = x) (h2 : bA c (pc + 1 + 1) = b) (hx : x < 256 ∧ b < 256) (hv : Jvm.ClassFile.Reader.signed 8 b = v) : DR c pc (.iinc x v) 3 := dk_of (by
  unfold Jvm.ClassFile.Decoder.instr
  rw [dk_bind (bA_u1 h (by decide))]
  show Jvm.ClassFile.Reader.runAt ((Jvm.ClassFile.Reader.u1 : Jvm.ClassFile.Decoder Nat) >>= fun x => (Jvm.ClassFile.Reader.s1 : Jvm.ClassFile.Decoder Int) >>= fun y => pure (Jvm.ClassFile.Instr.iinc x y)) c (pc + 1) = _
  rw [dk_bind (bA_u1 h1 hx.1), dk_bind (bA_s1 h2 hx.2 hv)]
  rfl)
theorem dk_133 {c : ByteArray} {pc : Nat} (h : bA c pc = 133) : DR c pc (.i2l) 1 := dk_of (by
  unfold Jvm.ClassFile.Decoder.instr
  rw [dk_bind (bA_u1 h (by decide))]
  rfl)
theorem dk_136 {c : ByteArray} {pc : Nat} (h : bA c pc = 136) : DR c pc (.l2i) 1 := dk_of (by
  unfold Jvm.ClassFile.Decoder.instr
  rw [dk_bind (bA_u1 h (by decide))]
  rfl)
theorem dk_145 {c : ByteArray} {pc : Nat} (h : bA c pc = 145) : DR c pc (.i2b) 1 := dk_of (by
  unfold Jvm.ClassFile.Decoder.instr
  rw [dk_bind (bA_u1 h (by decide))]
  rfl)
theorem dk_146 {c : ByteArray} {pc : Nat} (h : bA c pc = 146) : DR c pc (.i2c) 1 := dk_of (by
  unfold Jvm.ClassFile.Decoder.instr
  rw [dk_bind (bA_u1 h (by decide))]
  rfl)
theorem dk_147 {c : ByteArray} {pc : Nat} (h : bA c pc = 147) : DR c pc (.i2s) 1 := dk_of (by
  unfold Jvm.ClassFile.Decoder.instr
  rw [dk_bind (bA_u1 h (by decide))]
  rfl)
theorem dk_148 {c : ByteArray} {pc : Nat} (h : bA c pc = 148) : DR c pc (.lcmp) 1 := dk_of (by
  unfold Jvm.ClassFile.Decoder.instr
  rw [dk_bind (bA_u1 h (by decide))]
  rfl)
theorem dk_153 {c : ByteArray} {pc hi lo : Nat} {v : Int} (h : bA c pc = 153) (h1 : bA c (pc + 1) = hi) (h2 : bA c (pc + 1 + 1) = lo) (hb : hi < 256 ∧ lo < 256) (hv : Jvm.ClassFile.Reader.signed 16 (hi * 256 + lo) = v) : DR c pc (.ifCond .eq v) 3 := dk_of (by
  unfold Jvm.ClassFile.Decoder.instr
  rw [dk_bind (bA_u1 h (by decide))]
  show Jvm.ClassFile.Reader.runAt ((Jvm.ClassFile.Reader.s2 : Jvm.ClassFile.Decoder Int) >>= fun x => pure (Jvm.ClassFile.Instr.ifCond .eq x)) c (pc + 1) = _
  rw [dk_bind (bA_s2 h1 h2 hb hv)]
  rfl)
theorem dk_154 {c : ByteArray} {pc hi lo : Nat} {v : Int} (h : bA c pc = 154) (h1 : bA c (pc + 1) = hi) (h2 : bA c (pc + 1 + 1) = lo) (hb : hi < 256 ∧ lo < 256) (hv : Jvm.ClassFile.Reader.signed 16 (hi * 256 + lo) = v) : DR c pc (.ifCond .ne v) 3 := dk_of (by
  unfold Jvm.ClassFile.Decoder.instr
  rw [dk_bind (bA_u1 h (by decide))]
  show Jvm.ClassFile.Reader.runAt ((Jvm.ClassFile.Reader.s2 : Jvm.ClassFile.Decoder Int) >>= fun x => pure (Jvm.ClassFile.Instr.ifCond .ne x)) c (pc + 1) = _
  rw [dk_bind (bA_s2 h1 h2 hb hv)]
  rfl)
theorem dk_155 {c : ByteArray} {pc hi lo : Nat} {v : Int} (h : bA c pc = 155) (h1 : bA c (pc + 1) = hi) (h2 : bA c (pc + 1 + 1) = lo) (hb : hi < 256 ∧ lo < 256) (hv : Jvm.ClassFile.Reader.signed 16 (hi * 256 + lo) = v) : DR c pc (.ifCond .lt v) 3 := dk_of (by
  unfold Jvm.ClassFile.Decoder.instr
  rw [dk_bind (bA_u1 h (by decide))]
  show Jvm.ClassFile.Reader.runAt ((Jvm.ClassFile.Reader.s2 : Jvm.ClassFile.Decoder Int) >>= fun x => pure (Jvm.ClassFile.Instr.ifCond .lt x)) c (pc + 1) = _
  rw [dk_bind (bA_s2 h1 h2 hb hv)]
  rfl)
theorem dk_156 {c : ByteArray} {pc hi lo : Nat} {v : Int} (h : bA c pc = 156) (h1 : bA c (pc + 1) = hi) (h2 : bA c (pc + 1 + 1) = lo) (hb : hi < 256 ∧ lo < 256) (hv : Jvm.ClassFile.Reader.signed 16 (hi * 256 + lo) = v) : DR c pc (.ifCond .ge v) 3 := dk_of (by
  unfold Jvm.ClassFile.Decoder.instr
  rw [dk_bind (bA_u1 h (by decide))]
  show Jvm.ClassFile.Reader.runAt ((Jvm.ClassFile.Reader.s2 : Jvm.ClassFile.Decoder Int) >>= fun x => pure (Jvm.ClassFile.Instr.ifCond .ge x)) c (pc + 1) = _
  rw [dk_bind (bA_s2 h1 h2 hb hv)]
  rfl)
theorem dk_157 {c : ByteArray} {pc hi lo : Nat} {v : Int} (h : bA c pc = 157) (h1 : bA c (pc + 1) = hi) (h2 : bA c (pc + 1 + 1) = lo) (hb : hi < 256 ∧ lo < 256) (hv : Jvm.ClassFile.Reader.signed 16 (hi * 256 + lo) = v) : DR c pc (.ifCond .gt v) 3 := dk_of (by
  unfold Jvm.ClassFile.Decoder.instr
  rw [dk_bind (bA_u1 h (by decide))]
  show Jvm.ClassFile.Reader.runAt ((Jvm.ClassFile.Reader.s2 : Jvm.ClassFile.Decoder Int) >>= fun x => pure (Jvm.ClassFile.Instr.ifCond .gt x)) c (pc + 1) = _
  rw [dk_bind (bA_s2 h1 h2 hb hv)]
  rfl)
theorem dk_158 {c : ByteArray} {pc hi lo : Nat} {v : Int} (h : bA c pc = 158) (h1 : bA c (pc + 1) = hi) (h2 : bA c (pc + 1 + 1) = lo) (hb : hi < 256 ∧ lo < 256) (hv : Jvm.ClassFile.Reader.signed 16 (hi * 256 + lo) = v) : DR c pc (.ifCond .le v) 3 := dk_of (by
  unfold Jvm.ClassFile.Decoder.instr
  rw [dk_bind (bA_u1 h (by decide))]
  show Jvm.ClassFile.Reader.runAt ((Jvm.ClassFile.Reader.s2 : Jvm.ClassFile.Decoder Int) >>= fun x => pure (Jvm.ClassFile.Instr.ifCond .le x)) c (pc + 1) = _
  rw [dk_bind (bA_s2 h1 h2 hb hv)]
  rfl)
theorem dk_159 {c : ByteArray} {pc hi lo : Nat} {v : Int} (h : bA c pc = 159) (h1 : bA c (pc + 1) = hi) (h2 : bA c (pc + 1 + 1) = lo) (hb : hi < 256 ∧ lo < 256) (hv : Jvm.ClassFile.Reader.signed 16 (hi * 256 + lo) = v) : DR c pc (.if_icmp .eq v) 3 := dk_of (by
  unfold Jvm.ClassFile.Decoder.instr
  rw [dk_bind (bA_u1 h (by decide))]
  show Jvm.ClassFile.Reader.runAt ((Jvm.ClassFile.Reader.s2 : Jvm.ClassFile.Decoder Int) >>= fun x => pure (Jvm.ClassFile.Instr.if_icmp .eq x)) c (pc + 1) = _
  rw [dk_bind (bA_s2 h1 h2 hb hv)]
  rfl)
theorem dk_160 {c : ByteArray} {pc hi lo : Nat} {v : Int} (h : bA c pc = 160) (h1 : bA c (pc + 1) = hi) (h2 : bA c (pc + 1 + 1) = lo) (hb : hi < 256 ∧ lo < 256) (hv : Jvm.ClassFile.Reader.signed 16 (hi * 256 + lo) = v) : DR c pc (.if_icmp .ne v) 3 := dk_of (by
  unfold Jvm.ClassFile.Decoder.instr
  rw [dk_bind (bA_u1 h (by decide))]
  show Jvm.ClassFile.Reader.runAt ((Jvm.ClassFile.Reader.s2 : Jvm.ClassFile.Decoder Int) >>= fun x => pure (Jvm.ClassFile.Instr.if_icmp .ne x)) c (pc + 1) = _
  rw [dk_bind (bA_s2 h1 h2 hb hv)]
  rfl)
theorem dk_161 {c : ByteArray} {pc hi lo : Nat} {v : Int} (h : bA c pc = 161) (h1 : bA c (pc + 1) = hi) (h2 : bA c (pc + 1 + 1) = lo) (hb : hi < 256 ∧ lo < 256) (hv : Jvm.ClassFile.Reader.signed 16 (hi * 256 + lo) = v) : DR c pc (.if_icmp .lt v) 3 := dk_of (by
  unfold Jvm.ClassFile.Decoder.instr
  rw [dk_bind (bA_u1 h (by decide))]
  show Jvm.ClassFile.Reader.runAt ((Jvm.ClassFile.Reader.s2 : Jvm.ClassFile.Decoder Int) >>= fun x => pure (Jvm.ClassFile.Instr.if_icmp .lt x)) c (pc + 1) = _
  rw [dk_bind (bA_s2 h1 h2 hb hv)]
  rfl)
theorem dk_162 {c : ByteArray} {pc hi lo : Nat} {v : Int} (h : bA c pc = 162) (h1 : bA c (pc + 1) = hi) (h2 : bA c (pc + 1 + 1) = lo) (hb : hi < 256 ∧ lo < 256) (hv : Jvm.ClassFile.Reader.signed 16 (hi * 256 + lo) = v) : DR c pc (.if_icmp .ge v) 3 := dk_of (by
  unfold Jvm.ClassFile.Decoder.instr
  rw [dk_bind (bA_u1 h (by decide))]
  show Jvm.ClassFile.Reader.runAt ((Jvm.ClassFile.Reader.s2 : Jvm.ClassFile.Decoder Int) >>= fun x => pure (Jvm.ClassFile.Instr.if_icmp .ge x)) c (pc + 1) = _
  rw [dk_bind (bA_s2 h1 h2 hb hv)]
  rfl)
theorem dk_163 {c : ByteArray} {pc hi lo : Nat} {v : Int} (h : bA c pc = 163) (h1 : bA c (pc + 1) = hi) (h2 : bA c (pc + 1 + 1) = lo) (hb : hi < 256 ∧ lo < 256) (hv : Jvm.ClassFile.Reader.signed 16 (hi * 256 + lo) = v) : DR c pc (.if_icmp .gt v) 3 := dk_of (by
  unfold Jvm.ClassFile.Decoder.instr
  rw [dk_bind (bA_u1 h (by decide))]
  show Jvm.ClassFile.Reader.runAt ((Jvm.ClassFile.Reader.s2 : Jvm.ClassFile.Decoder Int) >>= fun x => pure (Jvm.ClassFile.Instr.if_icmp .gt x)) c (pc + 1) = _
  rw [dk_bind (bA_s2 h1 h2 hb hv)]
  rfl)
theorem dk_164 {c : ByteArray} {pc hi lo : Nat} {v : Int} (h : bA c pc = 164) (h1 : bA c (pc + 1) = hi) (h2 : bA c (pc + 1 + 1) = lo) (hb : hi < 256 ∧ lo < 256) (hv : Jvm.ClassFile.Reader.signed 16 (hi * 256 + lo) = v) : DR c pc (.if_icmp .le v) 3 := dk_of (by
  unfold Jvm.ClassFile.Decoder.instr
  rw [dk_bind (bA_u1 h (by decide))]
  show Jvm.ClassFile.Reader.runAt ((Jvm.ClassFile.Reader.s2 : Jvm.ClassFile.Decoder Int) >>= fun x => pure (Jvm.ClassFile.Instr.if_icmp .le x)) c (pc + 1) = _
  rw [dk_bind (bA_s2 h1 h2 hb hv)]
  rfl)
theorem dk_167 {c : ByteArray} {pc hi lo : Nat} {v : Int} (h : bA c pc = 167) (h1 : bA c (pc + 1) = hi) (h2 : bA c (pc + 1 + 1) = lo) (hb : hi < 256 ∧ lo < 256) (hv : Jvm.ClassFile.Reader.signed 16 (hi * 256 + lo) = v) : DR c pc (.goto v) 3 := dk_of (by
  unfold Jvm.ClassFile.Decoder.instr
  rw [dk_bind (bA_u1 h (by decide))]
  show Jvm.ClassFile.Reader.runAt ((Jvm.ClassFile.Reader.s2 : Jvm.ClassFile.Decoder Int) >>= fun x => pure (Jvm.ClassFile.Instr.goto x)) c (pc + 1) = _
  rw [dk_bind (bA_s2 h1 h2 hb hv)]
  rfl)
theorem dk_172 {c : ByteArray} {pc : Nat} (h : bA c pc = 172) : DR c pc (.ireturn) 1 := dk_of (by
  unfold Jvm.ClassFile.Decoder.instr
  rw [dk_bind (bA_u1 h (by decide))]
  rfl)
theorem dk_173 {c : ByteArray} {pc : Nat} (h : bA c pc = 173) : DR c pc (.lreturn) 1 := dk_of (by
  unfold Jvm.ClassFile.Decoder.instr
  rw [dk_bind (bA_u1 h (by decide))]
  rfl)
theorem dk_177 {c : ByteArray} {pc : Nat} (h : bA c pc = 177) : DR c pc (.return_) 1 := dk_of (by
  unfold Jvm.ClassFile.Decoder.instr
  rw [dk_bind (bA_u1 h (by decide))]
  rfl)
theorem dk_178 {c : ByteArray} {pc hi lo : Nat} {v : Nat} (h : bA c pc = 178) (h1 : bA c (pc + 1) = hi) (h2 : bA c (pc + 1 + 1) = lo) (hb : hi < 256 ∧ lo < 256) (hv : hi * 256 + lo = v) : DR c pc (.getstatic v) 3 := dk_of (by
  unfold Jvm.ClassFile.Decoder.instr
  rw [dk_bind (bA_u1 h (by decide))]
  show Jvm.ClassFile.Reader.runAt ((Jvm.ClassFile.Reader.u2 : Jvm.ClassFile.Decoder Nat) >>= fun x => pure (Jvm.ClassFile.Instr.getstatic x)) c (pc + 1) = _
  rw [dk_bind (bA_u2 h1 h2 hb hv)]
  rfl)
theorem dk_180 {c : ByteArray} {pc hi lo : Nat} {v : Nat} (h : bA c pc = 180) (h1 : bA c (pc + 1) = hi) (h2 : bA c (pc + 1 + 1) = lo) (hb : hi < 256 ∧ lo < 256) (hv : hi * 256 + lo = v) : DR c pc (.getfield v) 3 := dk_of (by
  unfold Jvm.ClassFile.Decoder.instr
  rw [dk_bind (bA_u1 h (by decide))]
  show Jvm.ClassFile.Reader.runAt ((Jvm.ClassFile.Reader.u2 : Jvm.ClassFile.Decoder Nat) >>= fun x => pure (Jvm.ClassFile.Instr.getfield x)) c (pc + 1) = _
  rw [dk_bind (bA_u2 h1 h2 hb hv)]
  rfl)
theorem dk_181 {c : ByteArray} {pc hi lo : Nat} {v : Nat} (h : bA c pc = 181) (h1 : bA c (pc + 1) = hi) (h2 : bA c (pc + 1 + 1) = lo) (hb : hi < 256 ∧ lo < 256) (hv : hi * 256 + lo = v) : DR c pc (.putfield v) 3 := dk_of (by
  unfold Jvm.ClassFile.Decoder.instr
  rw [dk_bind (bA_u1 h (by decide))]
  show Jvm.ClassFile.Reader.runAt ((Jvm.ClassFile.Reader.u2 : Jvm.ClassFile.Decoder Nat) >>= fun x => pure (Jvm.ClassFile.Instr.putfield x)) c (pc + 1) = _
  rw [dk_bind (bA_u2 h1 h2 hb hv)]
  rfl)
theorem dk_182 {c : ByteArray} {pc hi lo : Nat} {v : Nat} (h : bA c pc = 182) (h1 : bA c (pc + 1) = hi) (h2 : bA c (pc + 1 + 1) = lo) (hb : hi < 256 ∧ lo < 256) (hv : hi * 256 + lo = v) : DR c pc (.invokevirtual v) 3 := dk_of (by
  unfold Jvm.ClassFile.Decoder.instr
  rw [dk_bind (bA_u1 h (by decide))]
  show Jvm.ClassFile.Reader.runAt ((Jvm.ClassFile.Reader.u2 : Jvm.ClassFile.Decoder Nat) >>= fun x => pure (Jvm.ClassFile.Instr.invokevirtual x)) c (pc + 1) = _
  rw [dk_bind (bA_u2 h1 h2 hb hv)]
  rfl)
theorem dk_183 {c : ByteArray} {pc hi lo : Nat} {v : Nat} (h : bA c pc = 183) (h1 : bA c (pc + 1) = hi) (h2 : bA c (pc + 1 + 1) = lo) (hb : hi < 256 ∧ lo < 256) (hv : hi * 256 + lo = v) : DR c pc (.invokespecial v) 3 := dk_of (by
  unfold Jvm.ClassFile.Decoder.instr
  rw [dk_bind (bA_u1 h (by decide))]
  show Jvm.ClassFile.Reader.runAt ((Jvm.ClassFile.Reader.u2 : Jvm.ClassFile.Decoder Nat) >>= fun x => pure (Jvm.ClassFile.Instr.invokespecial x)) c (pc + 1) = _
  rw [dk_bind (bA_u2 h1 h2 hb hv)]
  rfl)
theorem dk_184 {c : ByteArray} {pc hi lo : Nat} {v : Nat} (h : bA c pc = 184) (h1 : bA c (pc + 1) = hi) (h2 : bA c (pc + 1 + 1) = lo) (hb : hi < 256 ∧ lo < 256) (hv : hi * 256 + lo = v) : DR c pc (.invokestatic v) 3 := dk_of (by
  unfold Jvm.ClassFile.Decoder.instr
  rw [dk_bind (bA_u1 h (by decide))]
  show Jvm.ClassFile.Reader.runAt ((Jvm.ClassFile.Reader.u2 : Jvm.ClassFile.Decoder Nat) >>= fun x => pure (Jvm.ClassFile.Instr.invokestatic x)) c (pc + 1) = _
  rw [dk_bind (bA_u2 h1 h2 hb hv)]
  rfl)
theorem dk_187 {c : ByteArray} {pc hi lo : Nat} {v : Nat} (h : bA c pc = 187) (h1 : bA c (pc + 1) = hi) (h2 : bA c (pc + 1 + 1) = lo) (hb : hi < 256 ∧ lo < 256) (hv : hi * 256 + lo = v) : DR c pc (.new v) 3 := dk_of (by
  unfold Jvm.ClassFile.Decoder.instr
  rw [dk_bind (bA_u1 h (by decide))]
  show Jvm.ClassFile.Reader.runAt ((Jvm.ClassFile.Reader.u2 : Jvm.ClassFile.Decoder Nat) >>= fun x => pure (Jvm.ClassFile.Instr.new x)) c (pc + 1) = _
  rw [dk_bind (bA_u2 h1 h2 hb hv)]
  rfl)
theorem dk_189 {c : ByteArray} {pc hi lo : Nat} {v : Nat} (h : bA c pc = 189) (h1 : bA c (pc + 1) = hi) (h2 : bA c (pc + 1 + 1) = lo) (hb : hi < 256 ∧ lo < 256) (hv : hi * 256 + lo = v) : DR c pc (.anewarray v) 3 := dk_of (by
  unfold Jvm.ClassFile.Decoder.instr
  rw [dk_bind (bA_u1 h (by decide))]
  show Jvm.ClassFile.Reader.runAt ((Jvm.ClassFile.Reader.u2 : Jvm.ClassFile.Decoder Nat) >>= fun x => pure (Jvm.ClassFile.Instr.anewarray x)) c (pc + 1) = _
  rw [dk_bind (bA_u2 h1 h2 hb hv)]
  rfl)
theorem dk_190 {c : ByteArray} {pc : Nat} (h : bA c pc = 190) : DR c pc (.arraylength) 1 := dk_of (by
  unfold Jvm.ClassFile.Decoder.instr
  rw [dk_bind (bA_u1 h (by decide))]
  rfl)
theorem dk_191 {c : ByteArray} {pc : Nat} (h : bA c pc = 191) : DR c pc (.athrow) 1 := dk_of (by
  unfold Jvm.ClassFile.Decoder.instr
  rw [dk_bind (bA_u1 h (by decide))]
  rfl)
