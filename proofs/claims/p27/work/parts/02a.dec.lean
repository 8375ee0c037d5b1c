def dc_pf : List UInt8 → List Nat → Bool
  | _, [] => true
  | [], _ :: _ => false
  | x :: l, n :: m => Nat.beq x.toNat n && dc_pf l m
def dc_at : Nat → List UInt8 → List Nat → Bool
  | 0, l, m => dc_pf l m
  | _ + 1, [], _ => false
  | k + 1, _ :: l, m => dc_at k l m
theorem dc_atS : ∀ (k : Nat) (l : List UInt8) (n : Nat) (m : List Nat), dc_at k l (n :: m) = true → ∃ x, l[k]? = some x ∧ x.toNat = n ∧ dc_at (k + 1) l m = true := by
  intro k
  induction k with
  | zero =>
    intro l n m h
    cases l with
    | nil => cases h
    | cons x l =>
      have h : (Nat.beq x.toNat n && dc_pf l m) = true := h
      rw [Bool.and_eq_true] at h
      exact ⟨x, rfl, Nat.eq_of_beq_eq_true h.1, h.2⟩
  | succ k ih =>
    intro l n m h
    cases l with
    | nil => cases h
    | cons x l =>
      obtain ⟨y, h1, h2, h3⟩ := ih l n m h
      exact ⟨y, h1, h2, h3⟩
theorem dc_u1 {c : ByteArray} {p n : Nat} {m : List Nat} (h : dc_at p c.data.toList (n :: m) = true) : (Reader.u1 (ε := DecodeError)) c p = .ok (n, p + 1) ∧ dc_at (p + 1) c.data.toList m = true := by
  obtain ⟨x, h1, h2, h3⟩ := dc_atS p _ n m h
  refine ⟨?_, h3⟩
  have hs : p < c.size := (List.getElem?_eq_some_iff.mp h1).1
  have hx : c[p].toNat = n := by
    rw [← h2]
    congr 1
    exact (List.getElem?_eq_some_iff.mp h1).2
  subst hx
  show (if h : p < c.size then _ else _ : Reader DecodeError Nat) c p = _
  rw [dif_pos hs]
  rfl
theorem dc_u2 {c : ByteArray} {p a b : Nat} {m : List Nat} (h : dc_at p c.data.toList (a :: b :: m) = true) : (Reader.u2 (ε := DecodeError)) c p = .ok (a * 256 + b, p + 2) := by
  obtain ⟨h1, h2⟩ := dc_u1 h
  show (Reader.u1 (ε := DecodeError) c p >>= fun r => _) = _
  rw [h1]
  show (Reader.u1 (ε := DecodeError) c (p + 1) >>= fun r => _) = _
  rw [(dc_u1 h2).1]
  rfl
theorem dc_s1 {c : ByteArray} {p a : Nat} {m : List Nat} (h : dc_at p c.data.toList (a :: m) = true) : (Reader.s1 (ε := DecodeError)) c p = .ok (Reader.signed 8 a, p + 1) := by
  show (Reader.u1 (ε := DecodeError) c p >>= fun r => _) = _
  rw [(dc_u1 h).1]
  rfl
theorem dc_s2 {c : ByteArray} {p a b : Nat} {m : List Nat} (h : dc_at p c.data.toList (a :: b :: m) = true) : (Reader.s2 (ε := DecodeError)) c p = .ok (Reader.signed 16 (a * 256 + b), p + 2) := by
  show (Reader.u2 (ε := DecodeError) c p >>= fun r => _) = _
  rw [dc_u2 h]
  rfl
theorem dc_of {c : ByteArray} {pc q : Nat} {i : Instr} (h : Decoder.instr pc c pc = .ok (i, pc + q)) : decode c pc = .ok (i, q) := by
  show (Decoder.instr pc c pc >>= fun r => pure (r.1, r.2 - pc)) = _
  rw [h]
  show Except.ok (i, pc + q - pc) = _
  rw [Nat.add_sub_cancel_left]
theorem dc_9 {c : ByteArray} {pc : Nat} (h : dc_at pc c.data.toList [9] = true) : decode c pc = .ok (.lconst 0, 1) := dc_of (by
  show (Reader.u1 (ε := DecodeError) c pc >>= fun r => _) = _
  rw [(dc_u1 h).1]
  rfl)
theorem dc_10 {c : ByteArray} {pc : Nat} (h : dc_at pc c.data.toList [10] = true) : decode c pc = .ok (.lconst 1, 1) := dc_of (by
  show (Reader.u1 (ε := DecodeError) c pc >>= fun r => _) = _
  rw [(dc_u1 h).1]
  rfl)
theorem dc_46 {c : ByteArray} {pc : Nat} (h : dc_at pc c.data.toList [46] = true) : decode c pc = .ok (.iaload, 1) := dc_of (by
  show (Reader.u1 (ε := DecodeError) c pc >>= fun r => _) = _
  rw [(dc_u1 h).1]
  rfl)
theorem dc_51 {c : ByteArray} {pc : Nat} (h : dc_at pc c.data.toList [51] = true) : decode c pc = .ok (.baload, 1) := dc_of (by
  show (Reader.u1 (ε := DecodeError) c pc >>= fun r => _) = _
  rw [(dc_u1 h).1]
  rfl)
theorem dc_79 {c : ByteArray} {pc : Nat} (h : dc_at pc c.data.toList [79] = true) : decode c pc = .ok (.iastore, 1) := dc_of (by
  show (Reader.u1 (ε := DecodeError) c pc >>= fun r => _) = _
  rw [(dc_u1 h).1]
  rfl)
theorem dc_84 {c : ByteArray} {pc : Nat} (h : dc_at pc c.data.toList [84] = true) : decode c pc = .ok (.bastore, 1) := dc_of (by
  show (Reader.u1 (ε := DecodeError) c pc >>= fun r => _) = _
  rw [(dc_u1 h).1]
  rfl)
theorem dc_87 {c : ByteArray} {pc : Nat} (h : dc_at pc c.data.toList [87] = true) : decode c pc = .ok (.pop, 1) := dc_of (by
  show (Reader.u1 (ε := DecodeError) c pc >>= fun r => _) = _
  rw [(dc_u1 h).1]
  rfl)
theorem dc_88 {c : ByteArray} {pc : Nat} (h : dc_at pc c.data.toList [88] = true) : decode c pc = .ok (.pop2, 1) := dc_of (by
  show (Reader.u1 (ε := DecodeError) c pc >>= fun r => _) = _
  rw [(dc_u1 h).1]
  rfl)
theorem dc_89 {c : ByteArray} {pc : Nat} (h : dc_at pc c.data.toList [89] = true) : decode c pc = .ok (.dup, 1) := dc_of (by
  show (Reader.u1 (ε := DecodeError) c pc >>= fun r => _) = _
  rw [(dc_u1 h).1]
  rfl)
theorem dc_92 {c : ByteArray} {pc : Nat} (h : dc_at pc c.data.toList [92] = true) : decode c pc = .ok (.dup2, 1) := dc_of (by
  show (Reader.u1 (ε := DecodeError) c pc >>= fun r => _) = _
  rw [(dc_u1 h).1]
  rfl)
theorem dc_96 {c : ByteArray} {pc : Nat} (h : dc_at pc c.data.toList [96] = true) : decode c pc = .ok (.iadd, 1) := dc_of (by
  show (Reader.u1 (ε := DecodeError) c pc >>= fun r => _) = _
  rw [(dc_u1 h).1]
  rfl)
theorem dc_97 {c : ByteArray} {pc : Nat} (h : dc_at pc c.data.toList [97] = true) : decode c pc = .ok (.ladd, 1) := dc_of (by
  show (Reader.u1 (ε := DecodeError) c pc >>= fun r => _) = _
  rw [(dc_u1 h).1]
  rfl)
theorem dc_100 {c : ByteArray} {pc : Nat} (h : dc_at pc c.data.toList [100] = true) : decode c pc = .ok (.isub, 1) := dc_of (by
  show (Reader.u1 (ε := DecodeError) c pc >>= fun r => _) = _
  rw [(dc_u1 h).1]
  rfl)
theorem dc_101 {c : ByteArray} {pc : Nat} (h : dc_at pc c.data.toList [101] = true) : decode c pc = .ok (.lsub, 1) := dc_of (by
  show (Reader.u1 (ε := DecodeError) c pc >>= fun r => _) = _
  rw [(dc_u1 h).1]
  rfl)
theorem dc_104 {c : ByteArray} {pc : Nat} (h : dc_at pc c.data.toList [104] = true) : decode c pc = .ok (.imul, 1) := dc_of (by
  show (Reader.u1 (ε := DecodeError) c pc >>= fun r => _) = _
  rw [(dc_u1 h).1]
  rfl)
theorem dc_105 {c : ByteArray} {pc : Nat} (h : dc_at pc c.data.toList [105] = true) : decode c pc = .ok (.lmul, 1) := dc_of (by
  show (Reader.u1 (ε := DecodeError) c pc >>= fun r => _) = _
  rw [(dc_u1 h).1]
  rfl)
theorem dc_108 {c : ByteArray} {pc : Nat} (h : dc_at pc c.data.toList [108] = true) : decode c pc = .ok (.idiv, 1) := dc_of (by
  show (Reader.u1 (ε := DecodeError) c pc >>= fun r => _) = _
  rw [(dc_u1 h).1]
  rfl)
theorem dc_109 {c : ByteArray} {pc : Nat} (h : dc_at pc c.data.toList [109] = true) : decode c pc = .ok (.ldiv, 1) := dc_of (by
  show (Reader.u1 (ε := DecodeError) c pc >>= fun r => _) = _
  rw [(dc_u1 h).1]
  rfl)
theorem dc_112 {c : ByteArray} {pc : Nat} (h : dc_at pc c.data.toList [112] = true) : decode c pc = .ok (.irem, 1) := dc_of (by
  show (Reader.u1 (ε := DecodeError) c pc >>= fun r => _) = _
  rw [(dc_u1 h).1]
  rfl)
theorem dc_113 {c : ByteArray} {pc : Nat} (h : dc_at pc c.data.toList [113] = true) : decode c pc = .ok (.lrem, 1) := dc_of (by
  show (Reader.u1 (ε := DecodeError) c pc >>= fun r => _) = _
  rw [(dc_u1 h).1]
  rfl)
theorem dc_116 {c : ByteArray} {pc : Nat} (h : dc_at pc c.data.toList [116] = true) : decode c pc = .ok (.ineg, 1) := dc_of (by
  show (Reader.u1 (ε := DecodeError) c pc >>= fun r => _) = _
  rw [(dc_u1 h).1]
  rfl)
theorem dc_120 {c : ByteArray} {pc : Nat} (h : dc_at pc c.data.toList [120] = true) : decode c pc = .ok (.ishl, 1) := dc_of (by
  show (Reader.u1 (ε := DecodeError) c pc >>= fun r => _) = _
  rw [(dc_u1 h).1]
  rfl)
theorem dc_122 {c : ByteArray} {pc : Nat} (h : dc_at pc c.data.toList [122] = true) : decode c pc = .ok (.ishr, 1) := dc_of (by
  show (Reader.u1 (ε := DecodeError) c pc >>= fun r => _) = _
  rw [(dc_u1 h).1]
  rfl)
theorem dc_126 {c : ByteArray} {pc : Nat} (h : dc_at pc c.data.toList [126] = true) : decode c pc = .ok (.iand, 1) := dc_of (by
  show (Reader.u1 (ε := DecodeError) c pc >>= fun r => _) = _
  rw [(dc_u1 h).1]
  rfl)
theorem dc_128 {c : ByteArray} {pc : Nat} (h : dc_at pc c.data.toList [128] = true) : decode c pc = .ok (.ior, 1) := dc_of (by
  show (Reader.u1 (ε := DecodeError) c pc >>= fun r => _) = _
  rw [(dc_u1 h).1]
  rfl)
theorem dc_130 {c : ByteArray} {pc : Nat} (h : dc_at pc c.data.toList [130] = true) : decode c pc = .ok (.ixor, 1) := dc_of (by
  show (Reader.u1 (ε := DecodeError) c pc >>= fun r => _) = _
  rw [(dc_u1 h).1]
  rfl)
theorem dc_133 {c : ByteArray} {pc : Nat} (h : dc_at pc c.data.toList [133] = true) : decode c pc = .ok (.i2l, 1) := dc_of (by
  show (Reader.u1 (ε := DecodeError) c pc >>= fun r => _) = _
  rw [(dc_u1 h).1]
  rfl)
theorem dc_136 {c : ByteArray} {pc : Nat} (h : dc_at pc c.data.toList [136] = true) : decode c pc = .ok (.l2i, 1) := dc_of (by
  show (Reader.u1 (ε := DecodeError) c pc >>= fun r => _) = _
  rw [(dc_u1 h).1]
  rfl)
theorem dc_145 {c : ByteArray} {pc : Nat} (h : dc_at pc c.data.toList [145] = true) : decode c pc = .ok (.i2b, 1) := dc_of (by
  show (Reader.u1 (ε := DecodeError) c pc >>= fun r => _) = _
  rw [(dc_u1 h).1]
  rfl)
theorem dc_146 {c : ByteArray} {pc : Nat} (h : dc_at pc c.data.toList [146] = true) : decode c pc = .ok (.i2c, 1) := dc_of (by
  show (Reader.u1 (ε := DecodeError) c pc >>= fun r => _) = _
  rw [(dc_u1 h).1]
  rfl)
theorem dc_148 {c : ByteArray} {pc : Nat} (h : dc_at pc c.data.toList [148] = true) : decode c pc = .ok (.lcmp, 1) := dc_of (by
  show (Reader.u1 (ε := DecodeError) c pc >>= fun r => _) = _
  rw [(dc_u1 h).1]
  rfl)
theorem dc_172 {c : ByteArray} {pc : Nat} (h : dc_at pc c.data.toList [172] = true) : decode c pc = .ok (.ireturn, 1) := dc_of (by
  show (Reader.u1 (ε := DecodeError) c pc >>= fun r => _) = _
  rw [(dc_u1 h).1]
  rfl)
theorem dc_173 {c : ByteArray} {pc : Nat} (h : dc_at pc c.data.toList [173] = true) : decode c pc = .ok (.lreturn, 1) := dc_of (by
  show (Reader.u1 (ε := DecodeError) c pc >>= fun r => _) = _
  rw [(dc_u1 h).1]
  rfl)
theorem dc_176 {c : ByteArray} {pc : Nat} (h : dc_at pc c.data.toList [176] = true) : decode c pc = .ok (.areturn, 1) := dc_of (by
  show (Reader.u1 (ε := DecodeError) c pc >>= fun r => _) = _
  rw [(dc_u1 h).1]
  rfl)
theorem dc_177 {c : ByteArray} {pc : Nat} (h : dc_at pc c.data.toList [177] = true) : decode c pc = .ok (.return_, 1) := dc_of (by
  show (Reader.u1 (ε := DecodeError) c pc >>= fun r => _) = _
  rw [(dc_u1 h).1]
  rfl)
theorem dc_190 {c : ByteArray} {pc : Nat} (h : dc_at pc c.data.toList [190] = true) : decode c pc = .ok (.arraylength, 1) := dc_of (by
  show (Reader.u1 (ε := DecodeError) c pc >>= fun r => _) = _
  rw [(dc_u1 h).1]
  rfl)
theorem dc_191 {c : ByteArray} {pc : Nat} (h : dc_at pc c.data.toList [191] = true) : decode c pc = .ok (.athrow, 1) := dc_of (by
  show (Reader.u1 (ε := DecodeError) c pc >>= fun r => _) = _
  rw [(dc_u1 h).1]
  rfl)
theorem dc_1 {c : ByteArray} {pc : Nat} (h : dc_at pc c.data.toList [1] = true) : decode c pc = .ok (.aconst_null, 1) := dc_of (by
  show (Reader.u1 (ε := DecodeError) c pc >>= fun r => _) = _
  rw [(dc_u1 h).1]
  rfl)
theorem dc_2 {c : ByteArray} {pc : Nat} (h : dc_at pc c.data.toList [2] = true) : decode c pc = .ok (.iconst (-1), 1) := dc_of (by
  show (Reader.u1 (ε := DecodeError) c pc >>= fun r => _) = _
  rw [(dc_u1 h).1]
  rfl)
theorem dc_3 {c : ByteArray} {pc : Nat} (h : dc_at pc c.data.toList [3] = true) : decode c pc = .ok (.iconst 0, 1) := dc_of (by
  show (Reader.u1 (ε := DecodeError) c pc >>= fun r => _) = _
  rw [(dc_u1 h).1]
  rfl)
theorem dc_4 {c : ByteArray} {pc : Nat} (h : dc_at pc c.data.toList [4] = true) : decode c pc = .ok (.iconst 1, 1) := dc_of (by
  show (Reader.u1 (ε := DecodeError) c pc >>= fun r => _) = _
  rw [(dc_u1 h).1]
  rfl)
theorem dc_5 {c : ByteArray} {pc : Nat} (h : dc_at pc c.data.toList [5] = true) : decode c pc = .ok (.iconst 2, 1) := dc_of (by
  show (Reader.u1 (ε := DecodeError) c pc >>= fun r => _) = _
  rw [(dc_u1 h).1]
  rfl)
theorem dc_6 {c : ByteArray} {pc : Nat} (h : dc_at pc c.data.toList [6] = true) : decode c pc = .ok (.iconst 3, 1) := dc_of (by
  show (Reader.u1 (ε := DecodeError) c pc >>= fun r => _) = _
  rw [(dc_u1 h).1]
  rfl)
theorem dc_7 {c : ByteArray} {pc : Nat} (h : dc_at pc c.data.toList [7] = true) : decode c pc = .ok (.iconst 4, 1) := dc_of (by
  show (Reader.u1 (ε := DecodeError) c pc >>= fun r => _) = _
  rw [(dc_u1 h).1]
  rfl)
theorem dc_8 {c : ByteArray} {pc : Nat} (h : dc_at pc c.data.toList [8] = true) : decode c pc = .ok (.iconst 5, 1) := dc_of (by
  show (Reader.u1 (ε := DecodeError) c pc >>= fun r => _) = _
  rw [(dc_u1 h).1]
  rfl)
theorem dc_26 {c : ByteArray} {pc : Nat} (h : dc_at pc c.data.toList [26] = true) : decode c pc = .ok (.iload_n 0, 1) := dc_of (by
  show (Reader.u1 (ε := DecodeError) c pc >>= fun r => _) = _
  rw [(dc_u1 h).1]
  rfl)
theorem dc_27 {c : ByteArray} {pc : Nat} (h : dc_at pc c.data.toList [27] = true) : decode c pc = .ok (.iload_n 1, 1) := dc_of (by
  show (Reader.u1 (ε := DecodeError) c pc >>= fun r => _) = _
  rw [(dc_u1 h).1]
  rfl)
theorem dc_28 {c : ByteArray} {pc : Nat} (h : dc_at pc c.data.toList [28] = true) : decode c pc = .ok (.iload_n 2, 1) := dc_of (by
  show (Reader.u1 (ε := DecodeError) c pc >>= fun r => _) = _
  rw [(dc_u1 h).1]
  rfl)
theorem dc_29 {c : ByteArray} {pc : Nat} (h : dc_at pc c.data.toList [29] = true) : decode c pc = .ok (.iload_n 3, 1) := dc_of (by
  show (Reader.u1 (ε := DecodeError) c pc >>= fun r => _) = _
  rw [(dc_u1 h).1]
  rfl)
theorem dc_30 {c : ByteArray} {pc : Nat} (h : dc_at pc c.data.toList [30] = true) : decode c pc = .ok (.lload_n 0, 1) := dc_of (by
  show (Reader.u1 (ε := DecodeError) c pc >>= fun r => _) = _
  rw [(dc_u1 h).1]
  rfl)
theorem dc_31 {c : ByteArray} {pc : Nat} (h : dc_at pc c.data.toList [31] = true) : decode c pc = .ok (.lload_n 1, 1) := dc_of (by
  show (Reader.u1 (ε := DecodeError) c pc >>= fun r => _) = _
  rw [(dc_u1 h).1]
  rfl)
theorem dc_32 {c : ByteArray} {pc : Nat} (h : dc_at pc c.data.toList [32] = true) : decode c pc = .ok (.lload_n 2, 1) := dc_of (by
  show (Reader.u1 (ε := DecodeError) c pc >>= fun r => _) = _
  rw [(dc_u1 h).1]
  rfl)
theorem dc_33 {c : ByteArray} {pc : Nat} (h : dc_at pc c.data.toList [33] = true) : decode c pc = .ok (.lload_n 3, 1) := dc_of (by
  show (Reader.u1 (ε := DecodeError) c pc >>= fun r => _) = _
  rw [(dc_u1 h).1]
  rfl)
theorem dc_42 {c : ByteArray} {pc : Nat} (h : dc_at pc c.data.toList [42] = true) : decode c pc = .ok (.aload_n 0, 1) := dc_of (by
  show (Reader.u1 (ε := DecodeError) c pc >>= fun r => _) = _
  rw [(dc_u1 h).1]
  rfl)
theorem dc_43 {c : ByteArray} {pc : Nat} (h : dc_at pc c.data.toList [43] = true) : decode c pc = .ok (.aload_n 1, 1) := dc_of (by
  show (Reader.u1 (ε := DecodeError) c pc >>= fun r => _) = _
  rw [(dc_u1 h).1]
  rfl)
theorem dc_44 {c : ByteArray} {pc : Nat} (h : dc_at pc c.data.toList [44] = true) : decode c pc = .ok (.aload_n 2, 1) := dc_of (by
  show (Reader.u1 (ε := DecodeError) c pc >>= fun r => _) = _
  rw [(dc_u1 h).1]
  rfl)
theorem dc_45 {c : ByteArray} {pc : Nat} (h : dc_at pc c.data.toList [45] = true) : decode c pc = .ok (.aload_n 3, 1) := dc_of (by
  show (Reader.u1 (ε := DecodeError) c pc >>= fun r => _) = _
  rw [(dc_u1 h).1]
  rfl)
theorem dc_59 {c : ByteArray} {pc : Nat} (h : dc_at pc c.data.toList [59] = true) : decode c pc = .ok (.istore_n 0, 1) := dc_of (by
  show (Reader.u1 (ε := DecodeError) c pc >>= fun r => _) = _
  rw [(dc_u1 h).1]
  rfl)
theorem dc_60 {c : ByteArray} {pc : Nat} (h : dc_at pc c.data.toList [60] = true) : decode c pc = .ok (.istore_n 1, 1) := dc_of (by
  show (Reader.u1 (ε := DecodeError) c pc >>= fun r => _) = _
  rw [(dc_u1 h).1]
  rfl)
theorem dc_61 {c : ByteArray} {pc : Nat} (h : dc_at pc c.data.toList [61] = true) : decode c pc = .ok (.istore_n 2, 1) := dc_of (by
  show (Reader.u1 (ε := DecodeError) c pc >>= fun r => _) = _
  rw [(dc_u1 h).1]
  rfl)
theorem dc_62 {c : ByteArray} {pc : Nat} (h : dc_at pc c.data.toList [62] = true) : decode c pc = .ok (.istore_n 3, 1) := dc_of (by
  show (Reader.u1 (ε := DecodeError) c pc >>= fun r => _) = _
  rw [(dc_u1 h).1]
  rfl)
theorem dc_63 {c : ByteArray} {pc : Nat} (h : dc_at pc c.data.toList [63] = true) : decode c pc = .ok (.lstore_n 0, 1) := dc_of (by
  show (Reader.u1 (ε := DecodeError) c pc >>= fun r => _) = _
  rw [(dc_u1 h).1]
  rfl)
theorem dc_64 {c : ByteArray} {pc : Nat} (h : dc_at pc c.data.toList [64] = true) : decode c pc = .ok (.lstore_n 1, 1) := dc_of (by
  show (Reader.u1 (ε := DecodeError) c pc >>= fun r => _) = _
  rw [(dc_u1 h).1]
  rfl)
theorem dc_65 {c : ByteArray} {pc : Nat} (h : dc_at pc c.data.toList [65] = true) : decode c pc = .ok (.lstore_n 2, 1) := dc_of (by
  show (Reader.u1 (ε := DecodeError) c pc >>= fun r => _) = _
  rw [(dc_u1 h).1]
  rfl)
theorem dc_66 {c : ByteArray} {pc : Nat} (h : dc_at pc c.data.toList [66] = true) : decode c pc = .ok (.lstore_n 3, 1) := dc_of (by
  show (Reader.u1 (ε := DecodeError) c pc >>= fun r => _) = _
  rw [(dc_u1 h).1]
  rfl)
theorem dc_75 {c : ByteArray} {pc : Nat} (h : dc_at pc c.data.toList [75] = true) : decode c pc = .ok (.astore_n 0, 1) := dc_of (by
  show (Reader.u1 (ε := DecodeError) c pc >>= fun r => _) = _
  rw [(dc_u1 h).1]
  rfl)
theorem dc_76 {c : ByteArray} {pc : Nat} (h : dc_at pc c.data.toList [76] = true) : decode c pc = .ok (.astore_n 1, 1) := dc_of (by
  show (Reader.u1 (ε := DecodeError) c pc >>= fun r => _) = _
  rw [(dc_u1 h).1]
  rfl)
theorem dc_77 {c : ByteArray} {pc : Nat} (h : dc_at pc c.data.toList [77] = true) : decode c pc = .ok (.astore_n 2, 1) := dc_of (by
  show (Reader.u1 (ε := DecodeError) c pc >>= fun r => _) = _
  rw [(dc_u1 h).1]
  rfl)
theorem dc_78 {c : ByteArray} {pc : Nat} (h : dc_at pc c.data.toList [78] = true) : decode c pc = .ok (.astore_n 3, 1) := dc_of (by
  show (Reader.u1 (ε := DecodeError) c pc >>= fun r => _) = _
  rw [(dc_u1 h).1]
  rfl)
theorem dc_18 {c : ByteArray} {pc a : Nat} (h : dc_at pc c.data.toList [18, a] = true) : decode c pc = .ok (.ldc (a), 2) := dc_of (by
  show (Reader.u1 (ε := DecodeError) c pc >>= fun r => _) = _
  rw [(dc_u1 h).1]
  show (Reader.u1 (ε := DecodeError) c (pc + 1) >>= fun r => _) = _
  rw [(dc_u1 (dc_u1 h).2).1]
  rfl)
theorem dc_21 {c : ByteArray} {pc a : Nat} (h : dc_at pc c.data.toList [21, a] = true) : decode c pc = .ok (.iload (a), 2) := dc_of (by
  show (Reader.u1 (ε := DecodeError) c pc >>= fun r => _) = _
  rw [(dc_u1 h).1]
  show (Reader.u1 (ε := DecodeError) c (pc + 1) >>= fun r => _) = _
  rw [(dc_u1 (dc_u1 h).2).1]
  rfl)
theorem dc_22 {c : ByteArray} {pc a : Nat} (h : dc_at pc c.data.toList [22, a] = true) : decode c pc = .ok (.lload (a), 2) := dc_of (by
  show (Reader.u1 (ε := DecodeError) c pc >>= fun r => _) = _
  rw [(dc_u1 h).1]
  show (Reader.u1 (ε := DecodeError) c (pc + 1) >>= fun r => _) = _
  rw [(dc_u1 (dc_u1 h).2).1]
  rfl)
theorem dc_25 {c : ByteArray} {pc a : Nat} (h : dc_at pc c.data.toList [25, a] = true) : decode c pc = .ok (.aload (a), 2) := dc_of (by
  show (Reader.u1 (ε := DecodeError) c pc >>= fun r => _) = _
  rw [(dc_u1 h).1]
  show (Reader.u1 (ε := DecodeError) c (pc + 1) >>= fun r => _) = _
  rw [(dc_u1 (dc_u1 h).2).1]
  rfl)
theorem dc_54 {c : ByteArray} {pc a : Nat} (h : dc_at pc c.data.toList [54, a] = true) : decode c pc = .ok (.istore (a), 2) := dc_of (by
  show (Reader.u1 (ε := DecodeError) c pc >>= fun r => _) = _
  rw [(dc_u1 h).1]
  show (Reader.u1 (ε := DecodeError) c (pc + 1) >>= fun r => _) = _
  rw [(dc_u1 (dc_u1 h).2).1]
  rfl)
theorem dc_55 {c : ByteArray} {pc a : Nat} (h : dc_at pc c.data.toList [55, a] = true) : decode c pc = .ok (.lstore (a), 2) := dc_of (by
  show (Reader.u1 (ε := DecodeError) c pc >>= fun r => _) = _
  rw [(dc_u1 h).1]
  show (Reader.u1 (ε := DecodeError) c (pc + 1) >>= fun r => _) = _
  rw [(dc_u1 (dc_u1 h).2).1]
  rfl)
theorem dc_58 {c : ByteArray} {pc a : Nat} (h : dc_at pc c.data.toList [58, a] = true) : decode c pc = .ok (.astore (a), 2) := dc_of (by
  show (Reader.u1 (ε := DecodeError) c pc >>= fun r => _) = _
  rw [(dc_u1 h).1]
  show (Reader.u1 (ε := DecodeError) c (pc + 1) >>= fun r => _) = _
  rw [(dc_u1 (dc_u1 h).2).1]
  rfl)
theorem dc_19 {c : ByteArray} {pc a b : Nat} (h : dc_at pc c.data.toList [19, a, b] = true) : decode c pc = .ok (.ldc_w (a * 256 + b), 3) := dc_of (by
  show (Reader.u1 (ε := DecodeError) c pc >>= fun r => _) = _
  rw [(dc_u1 h).1]
  show (Reader.u2 (ε := DecodeError) c (pc + 1) >>= fun r => _) = _
  rw [dc_u2 (dc_u1 h).2]
  rfl)
theorem dc_20 {c : ByteArray} {pc a b : Nat} (h : dc_at pc c.data.toList [20, a, b] = true) : decode c pc = .ok (.ldc2_w (a * 256 + b), 3) := dc_of (by
  show (Reader.u1 (ε := DecodeError) c pc >>= fun r => _) = _
  rw [(dc_u1 h).1]
  show (Reader.u2 (ε := DecodeError) c (pc + 1) >>= fun r => _) = _
  rw [dc_u2 (dc_u1 h).2]
  rfl)
theorem dc_178 {c : ByteArray} {pc a b : Nat} (h : dc_at pc c.data.toList [178, a, b] = true) : decode c pc = .ok (.getstatic (a * 256 + b), 3) := dc_of (by
  show (Reader.u1 (ε := DecodeError) c pc >>= fun r => _) = _
  rw [(dc_u1 h).1]
  show (Reader.u2 (ε := DecodeError) c (pc + 1) >>= fun r => _) = _
  rw [dc_u2 (dc_u1 h).2]
  rfl)
theorem dc_179 {c : ByteArray} {pc a b : Nat} (h : dc_at pc c.data.toList [179, a, b] = true) : decode c pc = .ok (.putstatic (a * 256 + b), 3) := dc_of (by
  show (Reader.u1 (ε := DecodeError) c pc >>= fun r => _) = _
  rw [(dc_u1 h).1]
  show (Reader.u2 (ε := DecodeError) c (pc + 1) >>= fun r => _) = _
  rw [dc_u2 (dc_u1 h).2]
  rfl)
theorem dc_180 {c : ByteArray} {pc a b : Nat} (h : dc_at pc c.data.toList [180, a, b] = true) : decode c pc = .ok (.getfield (a * 256 + b), 3) := dc_of (by
  show (Reader.u1 (ε := DecodeError) c pc >>= fun r => _) = _
  rw [(dc_u1 h).1]
  show (Reader.u2 (ε := DecodeError) c (pc + 1) >>= fun r => _) = _
  rw [dc_u2 (dc_u1 h).2]
  rfl)
theorem dc_181 {c : ByteArray} {pc a b : Nat} (h : dc_at pc c.data.toList [181, a, b] = true) : decode c pc = .ok (.putfield (a * 256 + b), 3) := dc_of (by
  show (Reader.u1 (ε := DecodeError) c pc >>= fun r => _) = _
  rw [(dc_u1 h).1]
  show (Reader.u2 (ε := DecodeError) c (pc + 1) >>= fun r => _) = _
  rw [dc_u2 (dc_u1 h).2]
  rfl)
theorem dc_182 {c : ByteArray} {pc a b : Nat} (h : dc_at pc c.data.toList [182, a, b] = true) : decode c pc = .ok (.invokevirtual (a * 256 + b), 3) := dc_of (by
  show (Reader.u1 (ε := DecodeError) c pc >>= fun r => _) = _
  rw [(dc_u1 h).1]
  show (Reader.u2 (ε := DecodeError) c (pc + 1) >>= fun r => _) = _
  rw [dc_u2 (dc_u1 h).2]
  rfl)
theorem dc_183 {c : ByteArray} {pc a b : Nat} (h : dc_at pc c.data.toList [183, a, b] = true) : decode c pc = .ok (.invokespecial (a * 256 + b), 3) := dc_of (by
  show (Reader.u1 (ε := DecodeError) c pc >>= fun r => _) = _
  rw [(dc_u1 h).1]
  show (Reader.u2 (ε := DecodeError) c (pc + 1) >>= fun r => _) = _
  rw [dc_u2 (dc_u1 h).2]
  rfl)
theorem dc_184 {c : ByteArray} {pc a b : Nat} (h : dc_at pc c.data.toList [184, a, b] = true) : decode c pc = .ok (.invokestatic (a * 256 + b), 3) := dc_of (by
  show (Reader.u1 (ε := DecodeError) c pc >>= fun r => _) = _
  rw [(dc_u1 h).1]
  show (Reader.u2 (ε := DecodeError) c (pc + 1) >>= fun r => _) = _
  rw [dc_u2 (dc_u1 h).2]
  rfl)
theorem dc_187 {c : ByteArray} {pc a b : Nat} (h : dc_at pc c.data.toList [187, a, b] = true) : decode c pc = .ok (.new (a * 256 + b), 3) := dc_of (by
  show (Reader.u1 (ε := DecodeError) c pc >>= fun r => _) = _
  rw [(dc_u1 h).1]
  show (Reader.u2 (ε := DecodeError) c (pc + 1) >>= fun r => _) = _
  rw [dc_u2 (dc_u1 h).2]
  rfl)
theorem dc_189 {c : ByteArray} {pc a b : Nat} (h : dc_at pc c.data.toList [189, a, b] = true) : decode c pc = .ok (.anewarray (a * 256 + b), 3) := dc_of (by
  show (Reader.u1 (ε := DecodeError) c pc >>= fun r => _) = _
  rw [(dc_u1 h).1]
  show (Reader.u2 (ε := DecodeError) c (pc + 1) >>= fun r => _) = _
  rw [dc_u2 (dc_u1 h).2]
  rfl)
theorem dc_16 {c : ByteArray} {pc a : Nat} {v : Int} (h : dc_at pc c.data.toList [16, a] = true) (hv : Reader.signed 8 a = v) : decode c pc = .ok (.bipush v, 2) := dc_of (by
  subst hv
  show (Reader.u1 (ε := DecodeError) c pc >>= fun r => _) = _
  rw [(dc_u1 h).1]
  show (Reader.s1 (ε := DecodeError) c (pc + 1) >>= fun r => _) = _
  rw [dc_s1 (dc_u1 h).2]
  rfl)
theorem dc_17 {c : ByteArray} {pc a b : Nat} {v : Int} (h : dc_at pc c.data.toList [17, a, b] = true) (hv : Reader.signed 16 (a * 256 + b) = v) : decode c pc = .ok (.sipush v, 3) := dc_of (by
  subst hv
  show (Reader.u1 (ε := DecodeError) c pc >>= fun r => _) = _
  rw [(dc_u1 h).1]
  show (Reader.s2 (ε := DecodeError) c (pc + 1) >>= fun r => _) = _
  rw [dc_s2 (dc_u1 h).2]
  rfl)
theorem dc_167 {c : ByteArray} {pc a b : Nat} {v : Int} (h : dc_at pc c.data.toList [167, a, b] = true) (hv : Reader.signed 16 (a * 256 + b) = v) : decode c pc = .ok (.goto v, 3) := dc_of (by
  subst hv
  show (Reader.u1 (ε := DecodeError) c pc >>= fun r => _) = _
  rw [(dc_u1 h).1]
  show (Reader.s2 (ε := DecodeError) c (pc + 1) >>= fun r => _) = _
  rw [dc_s2 (dc_u1 h).2]
  rfl)
theorem dc_153 {c : ByteArray} {pc a b : Nat} {v : Int} (h : dc_at pc c.data.toList [153, a, b] = true) (hv : Reader.signed 16 (a * 256 + b) = v) : decode c pc = .ok (.ifCond .eq v, 3) := dc_of (by
  subst hv
  show (Reader.u1 (ε := DecodeError) c pc >>= fun r => _) = _
  rw [(dc_u1 h).1]
  show (Reader.s2 (ε := DecodeError) c (pc + 1) >>= fun r => _) = _
  rw [dc_s2 (dc_u1 h).2]
  rfl)
theorem dc_159 {c : ByteArray} {pc a b : Nat} {v : Int} (h : dc_at pc c.data.toList [159, a, b] = true) (hv : Reader.signed 16 (a * 256 + b) = v) : decode c pc = .ok (.if_icmp .eq v, 3) := dc_of (by
  subst hv
  show (Reader.u1 (ε := DecodeError) c pc >>= fun r => _) = _
  rw [(dc_u1 h).1]
  show (Reader.s2 (ε := DecodeError) c (pc + 1) >>= fun r => _) = _
  rw [dc_s2 (dc_u1 h).2]
  rfl)
theorem dc_154 {c : ByteArray} {pc a b : Nat} {v : Int} (h : dc_at pc c.data.toList [154, a, b] = true) (hv : Reader.signed 16 (a * 256 + b) = v) : decode c pc = .ok (.ifCond .ne v, 3) := dc_of (by
  subst hv
  show (Reader.u1 (ε := DecodeError) c pc >>= fun r => _) = _
  rw [(dc_u1 h).1]
  show (Reader.s2 (ε := DecodeError) c (pc + 1) >>= fun r => _) = _
  rw [dc_s2 (dc_u1 h).2]
  rfl)
theorem dc_160 {c : ByteArray} {pc a b : Nat} {v : Int} (h : dc_at pc c.data.toList [160, a, b] = true) (hv : Reader.signed 16 (a * 256 + b) = v) : decode c pc = .ok (.if_icmp .ne v, 3) := dc_of (by
  subst hv
  show (Reader.u1 (ε := DecodeError) c pc >>= fun r => _) = _
  rw [(dc_u1 h).1]
  show (Reader.s2 (ε := DecodeError) c (pc + 1) >>= fun r => _) = _
  rw [dc_s2 (dc_u1 h).2]
  rfl)
theorem dc_155 {c : ByteArray} {pc a b : Nat} {v : Int} (h : dc_at pc c.data.toList [155, a, b] = true) (hv : Reader.signed 16 (a * 256 + b) = v) : decode c pc = .ok (.ifCond .lt v, 3) := dc_of (by
  subst hv
  show (Reader.u1 (ε := DecodeError) c pc >>= fun r => _) = _
  rw [(dc_u1 h).1]
  show (Reader.s2 (ε := DecodeError) c (pc + 1) >>= fun r => _) = _
  rw [dc_s2 (dc_u1 h).2]
  rfl)
theorem dc_161 {c : ByteArray} {pc a b : Nat} {v : Int} (h : dc_at pc c.data.toList [161, a, b] = true) (hv : Reader.signed 16 (a * 256 + b) = v) : decode c pc = .ok (.if_icmp .lt v, 3) := dc_of (by
  subst hv
  show (Reader.u1 (ε := DecodeError) c pc >>= fun r => _) = _
  rw [(dc_u1 h).1]
  show (Reader.s2 (ε := DecodeError) c (pc + 1) >>= fun r => _) = _
  rw [dc_s2 (dc_u1 h).2]
  rfl)
theorem dc_156 {c : ByteArray} {pc a b : Nat} {v : Int} (h : dc_at pc c.data.toList [156, a, b] = true) (hv : Reader.signed 16 (a * 256 + b) = v) : decode c pc = .ok (.ifCond .ge v, 3) := dc_of (by
  subst hv
  show (Reader.u1 (ε := DecodeError) c pc >>= fun r => _) = _
  rw [(dc_u1 h).1]
  show (Reader.s2 (ε := DecodeError) c (pc + 1) >>= fun r => _) = _
  rw [dc_s2 (dc_u1 h).2]
  rfl)
theorem dc_162 {c : ByteArray} {pc a b : Nat} {v : Int} (h : dc_at pc c.data.toList [162, a, b] = true) (hv : Reader.signed 16 (a * 256 + b) = v) : decode c pc = .ok (.if_icmp .ge v, 3) := dc_of (by
  subst hv
  show (Reader.u1 (ε := DecodeError) c pc >>= fun r => _) = _
  rw [(dc_u1 h).1]
  show (Reader.s2 (ε := DecodeError) c (pc + 1) >>= fun r => _) = _
  rw [dc_s2 (dc_u1 h).2]
  rfl)
theorem dc_157 {c : ByteArray} {pc a b : Nat} {v : Int} (h : dc_at pc c.data.toList [157, a, b] = true) (hv : Reader.signed 16 (a * 256 + b) = v) : decode c pc = .ok (.ifCond .gt v, 3) := dc_of (by
  subst hv
  show (Reader.u1 (ε := DecodeError) c pc >>= fun r => _) = _
  rw [(dc_u1 h).1]
  show (Reader.s2 (ε := DecodeError) c (pc + 1) >>= fun r => _) = _
  rw [dc_s2 (dc_u1 h).2]
  rfl)
theorem dc_163 {c : ByteArray} {pc a b : Nat} {v : Int} (h : dc_at pc c.data.toList [163, a, b] = true) (hv : Reader.signed 16 (a * 256 + b) = v) : decode c pc = .ok (.if_icmp .gt v, 3) := dc_of (by
  subst hv
  show (Reader.u1 (ε := DecodeError) c pc >>= fun r => _) = _
  rw [(dc_u1 h).1]
  show (Reader.s2 (ε := DecodeError) c (pc + 1) >>= fun r => _) = _
  rw [dc_s2 (dc_u1 h).2]
  rfl)
theorem dc_158 {c : ByteArray} {pc a b : Nat} {v : Int} (h : dc_at pc c.data.toList [158, a, b] = true) (hv : Reader.signed 16 (a * 256 + b) = v) : decode c pc = .ok (.ifCond .le v, 3) := dc_of (by
  subst hv
  show (Reader.u1 (ε := DecodeError) c pc >>= fun r => _) = _
  rw [(dc_u1 h).1]
  show (Reader.s2 (ε := DecodeError) c (pc + 1) >>= fun r => _) = _
  rw [dc_s2 (dc_u1 h).2]
  rfl)
theorem dc_164 {c : ByteArray} {pc a b : Nat} {v : Int} (h : dc_at pc c.data.toList [164, a, b] = true) (hv : Reader.signed 16 (a * 256 + b) = v) : decode c pc = .ok (.if_icmp .le v, 3) := dc_of (by
  subst hv
  show (Reader.u1 (ε := DecodeError) c pc >>= fun r => _) = _
  rw [(dc_u1 h).1]
  show (Reader.s2 (ε := DecodeError) c (pc + 1) >>= fun r => _) = _
  rw [dc_s2 (dc_u1 h).2]
  rfl)
theorem dc_132 {c : ByteArray} {pc a b : Nat} {v : Int} (h : dc_at pc c.data.toList [132, a, b] = true) (hv : Reader.signed 8 b = v) : decode c pc = .ok (.iinc a v, 3) := dc_of (by
  subst hv
  show (Reader.u1 (ε := DecodeError) c pc >>= fun r => _) = _
  rw [(dc_u1 h).1]
  show (Reader.u1 (ε := DecodeError) c (pc + 1) >>= fun r => _) = _
  rw [(dc_u1 (dc_u1 h).2).1]
  show (Reader.s1 (ε := DecodeError) c (pc + 1 + 1) >>= fun r => _) = _
  rw [dc_s1 (dc_u1 (dc_u1 h).2).2]
  rfl)
