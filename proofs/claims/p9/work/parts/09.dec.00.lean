section
/-! ===== the instructions out of the bytes in one pass ===== -/
section IXD
variable {b : ByteArray} {pc : Nat} {x y z : UInt8} {r : List UInt8}
theorem ix_u1 {p : Nat} (hl : b.data.toList.drop p = x :: r) : Reader.runAt (Reader.u1 : Decoder Nat) b p = .ok (x.toNat, p + 1) := by
  have hp : p < b.data.toList.length := by
    rcases Nat.lt_or_ge p b.data.toList.length with h | h
    · exact h
    · rw [List.drop_eq_nil_of_le h] at hl; cases hl
  have hs : p < b.size := hp
  have hx : b[p] = x := by
    have h1 : (b.data.toList.drop p)[0]? = some x := by rw [hl]; rfl
    rw [List.getElem?_drop, Nat.add_zero, List.getElem?_eq_getElem hp] at h1
    exact Option.some.inj h1
  rw [← hx]
  first
    | (simp [Reader.u1, Reader.runAt, hs]; done)
    | (show ((if h : p < b.size then _ else _ : Decoder Nat) b p) = _; rw [dif_pos hs]; rfl)
theorem ix_bnd {α β : Type} {q : Decoder α} {f : α → Decoder β} {p p' : Nat} {a : α} (h : Reader.runAt q b p = .ok (a, p')) : Reader.runAt (q >>= f) b p = Reader.runAt (f a) b p' := by
  have h2 : (ReaderT.run q b).run p = Except.ok (a, p') := h
  show Except.bind ((ReaderT.run q b).run p) _ = _
  rw [h2]
  rfl
theorem ix_dl {l1 l2 : List UInt8} {n : Nat} (h : b.data.toList.drop pc = l1 ++ l2) (hn : l1.length = n) : b.data.toList.drop (pc + n) = l2 := by
  rw [← List.drop_drop, h, ← hn, List.drop_left]
theorem ix_s1 {p : Nat} (hl : b.data.toList.drop p = x :: r) : Reader.runAt (Reader.s1 : Decoder Int) b p = .ok (Reader.signed 8 x.toNat, p + 1) := by
  have h := ix_u1 hl
  have h2 : (ReaderT.run (Reader.u1 : Decoder Nat) b).run p = Except.ok (x.toNat, p + 1) := h
  show Except.bind ((ReaderT.run (Reader.u1 : Decoder Nat) b).run p) _ = _
  rw [h2]
  rfl
theorem ix_u2 {p : Nat} (hl : b.data.toList.drop p = x :: y :: r) : Reader.runAt (Reader.u2 : Decoder Nat) b p = .ok (x.toNat * 256 + y.toNat, p + 2) := by
  have h1 := ix_u1 hl
  have h2 := ix_u1 (p := p + 1) (x := y) (r := r) (ix_dl (n := 1) (l1 := [x]) hl rfl)
  have e : (Reader.u2 : Decoder Nat) = Reader.u1 >>= fun hi => Reader.u1 >>= fun lo => Pure.pure (hi * 256 + lo) := rfl
  rw [e, ix_bnd h1, ix_bnd h2]
  rfl
theorem ix_s2 {p : Nat} (hl : b.data.toList.drop p = x :: y :: r) : Reader.runAt (Reader.s2 : Decoder Int) b p = .ok (Reader.signed 16 (x.toNat * 256 + y.toNat), p + 2) := by
  have h := ix_u2 hl
  have h2 : (ReaderT.run (Reader.u2 : Decoder Nat) b).run p = Except.ok (x.toNat * 256 + y.toNat, p + 2) := h
  show Except.bind ((ReaderT.run (Reader.u2 : Decoder Nat) b).run p) _ = _
  rw [h2]
  rfl
theorem ix_dfin {i : Instr} {n : Nat} (h : Reader.runAt (Decoder.instr pc) b pc = .ok (i, pc + n)) : decode b pc = .ok (i, n) := by
  show Except.bind (Reader.runAt (Decoder.instr pc) b pc) _ = _
  rw [h]
  show Except.ok (i, pc + n - pc) = Except.ok (i, n)
  rw [Nat.add_sub_cancel_left]
theorem ix_d0 {i : Instr} {K : Nat → Decoder Instr} (hl : b.data.toList.drop pc = x :: r) (hK : Decoder.instr pc = Reader.u1 >>= K) (h1 : K x.toNat = Pure.pure i) : decode b pc = .ok (i, 1) := by
  refine ix_dfin ?_
  rw [hK, ix_bnd (ix_u1 hl), h1]
  rfl
theorem ix_d1 {f : Nat → Instr} {K : Nat → Decoder Instr} (hl : b.data.toList.drop pc = x :: y :: r) (hK : Decoder.instr pc = Reader.u1 >>= K) (h1 : K x.toNat = Reader.u1 >>= fun v => Pure.pure (f v)) : decode b pc = .ok (f y.toNat, 2) := by
  refine ix_dfin ?_
  rw [hK, ix_bnd (ix_u1 hl), h1, ix_bnd (ix_u1 (ix_dl (n := 1) (l1 := [x]) hl rfl))]
  rfl
theorem ix_d1s {f : Int → Instr} {K : Nat → Decoder Instr} (hl : b.data.toList.drop pc = x :: y :: r) (hK : Decoder.instr pc = Reader.u1 >>= K) (h1 : K x.toNat = Reader.s1 >>= fun v => Pure.pure (f v)) : decode b pc = .ok (f (Reader.signed 8 y.toNat), 2) := by
  refine ix_dfin ?_
  rw [hK, ix_bnd (ix_u1 hl), h1, ix_bnd (ix_s1 (ix_dl (n := 1) (l1 := [x]) hl rfl))]
  rfl
theorem ix_d2 {f : Nat → Instr} {K : Nat → Decoder Instr} (hl : b.data.toList.drop pc = x :: y :: z :: r) (hK : Decoder.instr pc = Reader.u1 >>= K) (h1 : K x.toNat = Reader.u2 >>= fun v => Pure.pure (f v)) : decode b pc = .ok (f (y.toNat * 256 + z.toNat), 3) := by
  refine ix_dfin ?_
  rw [hK, ix_bnd (ix_u1 hl), h1, ix_bnd (ix_u2 (ix_dl (n := 1) (l1 := [x]) hl rfl))]
  rfl
theorem ix_d2s {f : Int → Instr} {K : Nat → Decoder Instr} (hl : b.data.toList.drop pc = x :: y :: z :: r) (hK : Decoder.instr pc = Reader.u1 >>= K) (h1 : K x.toNat = Reader.s2 >>= fun v => Pure.pure (f v)) : decode b pc = .ok (f (Reader.signed 16 (y.toNat * 256 + z.toNat)), 3) := by
  refine ix_dfin ?_
  rw [hK, ix_bnd (ix_u1 hl), h1, ix_bnd (ix_s2 (ix_dl (n := 1) (l1 := [x]) hl rfl))]
  rfl
end IXD
theorem ix_k1 (pc : Nat) : ∃ K : Nat → Decoder Instr, Decoder.instr pc = Reader.u1 >>= K ∧ K 1 = Pure.pure .aconst_null := ⟨_, rfl, rfl⟩
theorem ix_k2 (pc : Nat) : ∃ K : Nat → Decoder Instr, Decoder.instr pc = Reader.u1 >>= K ∧ K 2 = Pure.pure (.iconst (-1)) := ⟨_, rfl, rfl⟩
theorem ix_k3 (pc : Nat) : ∃ K : Nat → Decoder Instr, Decoder.instr pc = Reader.u1 >>= K ∧ K 3 = Pure.pure (.iconst 0) := ⟨_, rfl, rfl⟩
theorem ix_k4 (pc : Nat) : ∃ K : Nat → Decoder Instr, Decoder.instr pc = Reader.u1 >>= K ∧ K 4 = Pure.pure (.iconst 1) := ⟨_, rfl, rfl⟩
theorem ix_k5 (pc : Nat) : ∃ K : Nat → Decoder Instr, Decoder.instr pc = Reader.u1 >>= K ∧ K 5 = Pure.pure (.iconst 2) := ⟨_, rfl, rfl⟩
theorem ix_k6 (pc : Nat) : ∃ K : Nat → Decoder Instr, Decoder.instr pc = Reader.u1 >>= K ∧ K 6 = Pure.pure (.iconst 3) := ⟨_, rfl, rfl⟩
theorem ix_k7 (pc : Nat) : ∃ K : Nat → Decoder Instr, Decoder.instr pc = Reader.u1 >>= K ∧ K 7 = Pure.pure (.iconst 4) := ⟨_, rfl, rfl⟩
theorem ix_k8 (pc : Nat) : ∃ K : Nat → Decoder Instr, Decoder.instr pc = Reader.u1 >>= K ∧ K 8 = Pure.pure (.iconst 5) := ⟨_, rfl, rfl⟩
theorem ix_k9 (pc : Nat) : ∃ K : Nat → Decoder Instr, Decoder.instr pc = Reader.u1 >>= K ∧ K 9 = Pure.pure (.lconst 0) := ⟨_, rfl, rfl⟩
theorem ix_k10 (pc : Nat) : ∃ K : Nat → Decoder Instr, Decoder.instr pc = Reader.u1 >>= K ∧ K 10 = Pure.pure (.lconst 1) := ⟨_, rfl, rfl⟩
theorem ix_k16 (pc : Nat) : ∃ K : Nat → Decoder Instr, Decoder.instr pc = Reader.u1 >>= K ∧ K 16 = Reader.s1 >>= fun v => Pure.pure (.bipush v) := ⟨_, rfl, rfl⟩
theorem ix_k17 (pc : Nat) : ∃ K : Nat → Decoder Instr, Decoder.instr pc = Reader.u1 >>= K ∧ K 17 = Reader.s2 >>= fun v => Pure.pure (.sipush v) := ⟨_, rfl, rfl⟩
theorem ix_k18 (pc : Nat) : ∃ K : Nat → Decoder Instr, Decoder.instr pc = Reader.u1 >>= K ∧ K 18 = Reader.u1 >>= fun v => Pure.pure (.ldc v) := ⟨_, rfl, rfl⟩
theorem ix_k19 (pc : Nat) : ∃ K : Nat → Decoder Instr, Decoder.instr pc = Reader.u1 >>= K ∧ K 19 = Reader.u2 >>= fun v => Pure.pure (.ldc_w v) := ⟨_, rfl, rfl⟩
theorem ix_k20 (pc : Nat) : ∃ K : Nat → Decoder Instr, Decoder.instr pc = Reader.u1 >>= K ∧ K 20 = Reader.u2 >>= fun v => Pure.pure (.ldc2_w v) := ⟨_, rfl, rfl⟩
theorem ix_k21 (pc : Nat) : ∃ K : Nat → Decoder Instr, Decoder.instr pc = Reader.u1 >>= K ∧ K 21 = Reader.u1 >>= fun v => Pure.pure (.iload v) := ⟨_, rfl, rfl⟩
theorem ix_k22 (pc : Nat) : ∃ K : Nat → Decoder Instr, Decoder.instr pc = Reader.u1 >>= K ∧ K 22 = Reader.u1 >>= fun v => Pure.pure (.lload v) := ⟨_, rfl, rfl⟩
theorem ix_k25 (pc : Nat) : ∃ K : Nat → Decoder Instr, Decoder.instr pc = Reader.u1 >>= K ∧ K 25 = Reader.u1 >>= fun v => Pure.pure (.aload v) := ⟨_, rfl, rfl⟩
theorem ix_k26 (pc : Nat) : ∃ K : Nat → Decoder Instr, Decoder.instr pc = Reader.u1 >>= K ∧ K 26 = Pure.pure (.iload_n 0) := ⟨_, rfl, rfl⟩
theorem ix_k27 (pc : Nat) : ∃ K : Nat → Decoder Instr, Decoder.instr pc = Reader.u1 >>= K ∧ K 27 = Pure.pure (.iload_n 1) := ⟨_, rfl, rfl⟩
theorem ix_k28 (pc : Nat) : ∃ K : Nat → Decoder Instr, Decoder.instr pc = Reader.u1 >>= K ∧ K 28 = Pure.pure (.iload_n 2) := ⟨_, rfl, rfl⟩
theorem ix_k29 (pc : Nat) : ∃ K : Nat → Decoder Instr, Decoder.instr pc = Reader.u1 >>= K ∧ K 29 = Pure.pure (.iload_n 3) := ⟨_, rfl, rfl⟩
theorem ix_k30 (pc : Nat) : ∃ K : Nat → Decoder Instr, Decoder.instr pc = Reader.u1 >>= K ∧ K 30 = Pure.pure (.lload_n 0) := ⟨_, rfl, rfl⟩
theorem ix_k31 (pc : Nat) : ∃ K : Nat → Decoder Instr, Decoder.instr pc = Reader.u1 >>= K ∧ K 31 = Pure.pure (.lload_n 1) := ⟨_, rfl, rfl⟩
theorem ix_k32 (pc : Nat) : ∃ K : Nat → Decoder Instr, Decoder.instr pc = Reader.u1 >>= K ∧ K 32 = Pure.pure (.lload_n 2) := ⟨_, rfl, rfl⟩
theorem ix_k33 (pc : Nat) : ∃ K : Nat → Decoder Instr, Decoder.instr pc = Reader.u1 >>= K ∧ K 33 = Pure.pure (.lload_n 3) := ⟨_, rfl, rfl⟩
theorem ix_k42 (pc : Nat) : ∃ K : Nat → Decoder Instr, Decoder.instr pc = Reader.u1 >>= K ∧ K 42 = Pure.pure (.aload_n 0) := ⟨_, rfl, rfl⟩
theorem ix_k43 (pc : Nat) : ∃ K : Nat → Decoder Instr, Decoder.instr pc = Reader.u1 >>= K ∧ K 43 = Pure.pure (.aload_n 1) := ⟨_, rfl, rfl⟩
theorem ix_k44 (pc : Nat) : ∃ K : Nat → Decoder Instr, Decoder.instr pc = Reader.u1 >>= K ∧ K 44 = Pure.pure (.aload_n 2) := ⟨_, rfl, rfl⟩
theorem ix_k45 (pc : Nat) : ∃ K : Nat → Decoder Instr, Decoder.instr pc = Reader.u1 >>= K ∧ K 45 = Pure.pure (.aload_n 3) := ⟨_, rfl, rfl⟩
theorem ix_k46 (pc : Nat) : ∃ K : Nat → Decoder Instr, Decoder.instr pc = Reader.u1 >>= K ∧ K 46 = Pure.pure .iaload := ⟨_, rfl, rfl⟩
theorem ix_k47 (pc : Nat) : ∃ K : Nat → Decoder Instr, Decoder.instr pc = Reader.u1 >>= K ∧ K 47 = Pure.pure .laload := ⟨_, rfl, rfl⟩
theorem ix_k50 (pc : Nat) : ∃ K : Nat → Decoder Instr, Decoder.instr pc = Reader.u1 >>= K ∧ K 50 = Pure.pure .aaload := ⟨_, rfl, rfl⟩
theorem ix_k51 (pc : Nat) : ∃ K : Nat → Decoder Instr, Decoder.instr pc = Reader.u1 >>= K ∧ K 51 = Pure.pure .baload := ⟨_, rfl, rfl⟩
theorem ix_k54 (pc : Nat) : ∃ K : Nat → Decoder Instr, Decoder.instr pc = Reader.u1 >>= K ∧ K 54 = Reader.u1 >>= fun v => Pure.pure (.istore v) := ⟨_, rfl, rfl⟩
theorem ix_k55 (pc : Nat) : ∃ K : Nat → Decoder Instr, Decoder.instr pc = Reader.u1 >>= K ∧ K 55 = Reader.u1 >>= fun v => Pure.pure (.lstore v) := ⟨_, rfl, rfl⟩
theorem ix_k58 (pc : Nat) : ∃ K : Nat → Decoder Instr, Decoder.instr pc = Reader.u1 >>= K ∧ K 58 = Reader.u1 >>= fun v => Pure.pure (.astore v) := ⟨_, rfl, rfl⟩
theorem ix_k59 (pc : Nat) : ∃ K : Nat → Decoder Instr, Decoder.instr pc = Reader.u1 >>= K ∧ K 59 = Pure.pure (.istore_n 0) := ⟨_, rfl, rfl⟩
theorem ix_k60 (pc : Nat) : ∃ K : Nat → Decoder Instr, Decoder.instr pc = Reader.u1 >>= K ∧ K 60 = Pure.pure (.istore_n 1) := ⟨_, rfl, rfl⟩
theorem ix_k61 (pc : Nat) : ∃ K : Nat → Decoder Instr, Decoder.instr pc = Reader.u1 >>= K ∧ K 61 = Pure.pure (.istore_n 2) := ⟨_, rfl, rfl⟩
theorem ix_k62 (pc : Nat) : ∃ K : Nat → Decoder Instr, Decoder.instr pc = Reader.u1 >>= K ∧ K 62 = Pure.pure (.istore_n 3) := ⟨_, rfl, rfl⟩
theorem ix_k63 (pc : Nat) : ∃ K : Nat → Decoder Instr, Decoder.instr pc = Reader.u1 >>= K ∧ K 63 = Pure.pure (.lstore_n 0) := ⟨_, rfl, rfl⟩
theorem ix_k64 (pc : Nat) : ∃ K : Nat → Decoder Instr, Decoder.instr pc = Reader.u1 >>= K ∧ K 64 = Pure.pure (.lstore_n 1) := ⟨_, rfl, rfl⟩
theorem ix_k65 (pc : Nat) : ∃ K : Nat → Decoder Instr, Decoder.instr pc = Reader.u1 >>= K ∧ K 65 = Pure.pure (.lstore_n 2) := ⟨_, rfl, rfl⟩
theorem ix_k66 (pc : Nat) : ∃ K : Nat → Decoder Instr, Decoder.instr pc = Reader.u1 >>= K ∧ K 66 = Pure.pure (.lstore_n 3) := ⟨_, rfl, rfl⟩
theorem ix_k75 (pc : Nat) : ∃ K : Nat → Decoder Instr, Decoder.instr pc = Reader.u1 >>= K ∧ K 75 = Pure.pure (.astore_n 0) := ⟨_, rfl, rfl⟩
theorem ix_k76 (pc : Nat) : ∃ K : Nat → Decoder Instr, Decoder.instr pc = Reader.u1 >>= K ∧ K 76 = Pure.pure (.astore_n 1) := ⟨_, rfl, rfl⟩
theorem ix_k77 (pc : Nat) : ∃ K : Nat → Decoder Instr, Decoder.instr pc = Reader.u1 >>= K ∧ K 77 = Pure.pure (.astore_n 2) := ⟨_, rfl, rfl⟩
theorem ix_k78 (pc : Nat) : ∃ K : Nat → Decoder Instr, Decoder.instr pc = Reader.u1 >>= K ∧ K 78 = Pure.pure (.astore_n 3) := ⟨_, rfl, rfl⟩
theorem ix_k79 (pc : Nat) : ∃ K : Nat → Decoder Instr, Decoder.instr pc = Reader.u1 >>= K ∧ K 79 = Pure.pure .iastore := ⟨_, rfl, rfl⟩
theorem ix_k80 (pc : Nat) : ∃ K : Nat → Decoder Instr, Decoder.instr pc = Reader.u1 >>= K ∧ K 80 = Pure.pure .lastore := ⟨_, rfl, rfl⟩
theorem ix_k83 (pc : Nat) : ∃ K : Nat → Decoder Instr, Decoder.instr pc = Reader.u1 >>= K ∧ K 83 = Pure.pure .aastore := ⟨_, rfl, rfl⟩
theorem ix_k84 (pc : Nat) : ∃ K : Nat → Decoder Instr, Decoder.instr pc = Reader.u1 >>= K ∧ K 84 = Pure.pure .bastore := ⟨_, rfl, rfl⟩
theorem ix_k87 (pc : Nat) : ∃ K : Nat → Decoder Instr, Decoder.instr pc = Reader.u1 >>= K ∧ K 87 = Pure.pure .pop := ⟨_, rfl, rfl⟩
theorem ix_k88 (pc : Nat) : ∃ K : Nat → Decoder Instr, Decoder.instr pc = Reader.u1 >>= K ∧ K 88 = Pure.pure .pop2 := ⟨_, rfl, rfl⟩
theorem ix_k89 (pc : Nat) : ∃ K : Nat → Decoder Instr, Decoder.instr pc = Reader.u1 >>= K ∧ K 89 = Pure.pure .dup := ⟨_, rfl, rfl⟩
theorem ix_k90 (pc : Nat) : ∃ K : Nat → Decoder Instr, Decoder.instr pc = Reader.u1 >>= K ∧ K 90 = Pure.pure .dup_x1 := ⟨_, rfl, rfl⟩
theorem ix_k91 (pc : Nat) : ∃ K : Nat → Decoder Instr, Decoder.instr pc = Reader.u1 >>= K ∧ K 91 = Pure.pure .dup_x2 := ⟨_, rfl, rfl⟩
theorem ix_k92 (pc : Nat) : ∃ K : Nat → Decoder Instr, Decoder.instr pc = Reader.u1 >>= K ∧ K 92 = Pure.pure .dup2 := ⟨_, rfl, rfl⟩
theorem ix_k93 (pc : Nat) : ∃ K : Nat → Decoder Instr, Decoder.instr pc = Reader.u1 >>= K ∧ K 93 = Pure.pure .dup2_x1 := ⟨_, rfl, rfl⟩
theorem ix_k94 (pc : Nat) : ∃ K : Nat → Decoder Instr, Decoder.instr pc = Reader.u1 >>= K ∧ K 94 = Pure.pure .dup2_x2 := ⟨_, rfl, rfl⟩
theorem ix_k96 (pc : Nat) : ∃ K : Nat → Decoder Instr, Decoder.instr pc = Reader.u1 >>= K ∧ K 96 = Pure.pure .iadd := ⟨_, rfl, rfl⟩
theorem ix_k97 (pc : Nat) : ∃ K : Nat → Decoder Instr, Decoder.instr pc = Reader.u1 >>= K ∧ K 97 = Pure.pure .ladd := ⟨_, rfl, rfl⟩
theorem ix_k100 (pc : Nat) : ∃ K : Nat → Decoder Instr, Decoder.instr pc = Reader.u1 >>= K ∧ K 100 = Pure.pure .isub := ⟨_, rfl, rfl⟩
theorem ix_k101 (pc : Nat) : ∃ K : Nat → Decoder Instr, Decoder.instr pc = Reader.u1 >>= K ∧ K 101 = Pure.pure .lsub := ⟨_, rfl, rfl⟩
theorem ix_k104 (pc : Nat) : ∃ K : Nat → Decoder Instr, Decoder.instr pc = Reader.u1 >>= K ∧ K 104 = Pure.pure .imul := ⟨_, rfl, rfl⟩
theorem ix_k105 (pc : Nat) : ∃ K : Nat → Decoder Instr, Decoder.instr pc = Reader.u1 >>= K ∧ K 105 = Pure.pure .lmul := ⟨_, rfl, rfl⟩
theorem ix_k108 (pc : Nat) : ∃ K : Nat → Decoder Instr, Decoder.instr pc = Reader.u1 >>= K ∧ K 108 = Pure.pure .idiv := ⟨_, rfl, rfl⟩
theorem ix_k109 (pc : Nat) : ∃ K : Nat → Decoder Instr, Decoder.instr pc = Reader.u1 >>= K ∧ K 109 = Pure.pure .ldiv := ⟨_, rfl, rfl⟩
theorem ix_k112 (pc : Nat) : ∃ K : Nat → Decoder Instr, Decoder.instr pc = Reader.u1 >>= K ∧ K 112 = Pure.pure .irem := ⟨_, rfl, rfl⟩
theorem ix_k113 (pc : Nat) : ∃ K : Nat → Decoder Instr, Decoder.instr pc = Reader.u1 >>= K ∧ K 113 = Pure.pure .lrem := ⟨_, rfl, rfl⟩
theorem ix_k116 (pc : Nat) : ∃ K : Nat → Decoder Instr, Decoder.instr pc = Reader.u1 >>= K ∧ K 116 = Pure.pure .ineg := ⟨_, rfl, rfl⟩
theorem ix_k117 (pc : Nat) : ∃ K : Nat → Decoder Instr, Decoder.instr pc = Reader.u1 >>= K ∧ K 117 = Pure.pure .lneg := ⟨_, rfl, rfl⟩
theorem ix_k120 (pc : Nat) : ∃ K : Nat → Decoder Instr, Decoder.instr pc = Reader.u1 >>= K ∧ K 120 = Pure.pure .ishl := ⟨_, rfl, rfl⟩
theorem ix_k121 (pc : Nat) : ∃ K : Nat → Decoder Instr, Decoder.instr pc = Reader.u1 >>= K ∧ K 121 = Pure.pure .lshl := ⟨_, rfl, rfl⟩
theorem ix_k122 (pc : Nat) : ∃ K : Nat → Decoder Instr, Decoder.instr pc = Reader.u1 >>= K ∧ K 122 = Pure.pure .ishr := ⟨_, rfl, rfl⟩
theorem ix_k123 (pc : Nat) : ∃ K : Nat → Decoder Instr, Decoder.instr pc = Reader.u1 >>= K ∧ K 123 = Pure.pure .lshr := ⟨_, rfl, rfl⟩
theorem ix_k124 (pc : Nat) : ∃ K : Nat → Decoder Instr, Decoder.instr pc = Reader.u1 >>= K ∧ K 124 = Pure.pure .iushr := ⟨_, rfl, rfl⟩
theorem ix_k125 (pc : Nat) : ∃ K : Nat → Decoder Instr, Decoder.instr pc = Reader.u1 >>= K ∧ K 125 = Pure.pure .lushr := ⟨_, rfl, rfl⟩
theorem ix_k126 (pc : Nat) : ∃ K : Nat → Decoder Instr, Decoder.instr pc = Reader.u1 >>= K ∧ K 126 = Pure.pure .iand := ⟨_, rfl, rfl⟩
theorem ix_k127 (pc : Nat) : ∃ K : Nat → Decoder Instr, Decoder.instr pc = Reader.u1 >>= K ∧ K 127 = Pure.pure .land := ⟨_, rfl, rfl⟩
theorem ix_k128 (pc : Nat) : ∃ K : Nat → Decoder Instr, Decoder.instr pc = Reader.u1 >>= K ∧ K 128 = Pure.pure .ior := ⟨_, rfl, rfl⟩
theorem ix_k129 (pc : Nat) : ∃ K : Nat → Decoder Instr, Decoder.instr pc = Reader.u1 >>= K ∧ K 129 = Pure.pure .lor := ⟨_, rfl, rfl⟩
theorem ix_k130 (pc : Nat) : ∃ K : Nat → Decoder Instr, Decoder.instr pc = Reader.u1 >>= K ∧ K 130 = Pure.pure .ixor := ⟨_, rfl, rfl⟩
theorem ix_k131 (pc : Nat) : ∃ K : Nat → Decoder Instr, Decoder.instr pc = Reader.u1 >>= K ∧ K 131 = Pure.pure .lxor := ⟨_, rfl, rfl⟩
theorem ix_k133 (pc : Nat) : ∃ K : Nat → Decoder Instr, Decoder.instr pc = Reader.u1 >>= K ∧ K 133 = Pure.pure .i2l := ⟨_, rfl, rfl⟩
theorem ix_k136 (pc : Nat) : ∃ K : Nat → Decoder Instr, Decoder.instr pc = Reader.u1 >>= K ∧ K 136 = Pure.pure .l2i := ⟨_, rfl, rfl⟩
theorem ix_k145 (pc : Nat) : ∃ K : Nat → Decoder Instr, Decoder.instr pc = Reader.u1 >>= K ∧ K 145 = Pure.pure .i2b := ⟨_, rfl, rfl⟩
theorem ix_k146 (pc : Nat) : ∃ K : Nat → Decoder Instr, Decoder.instr pc = Reader.u1 >>= K ∧ K 146 = Pure.pure .i2c := ⟨_, rfl, rfl⟩
theorem ix_k147 (pc : Nat) : ∃ K : Nat → Decoder Instr, Decoder.instr pc = Reader.u1 >>= K ∧ K 147 = Pure.pure .i2s := ⟨_, rfl, rfl⟩
theorem ix_k148 (pc : Nat) : ∃ K : Nat → Decoder Instr, Decoder.instr pc = Reader.u1 >>= K ∧ K 148 = Pure.pure .lcmp := ⟨_, rfl, rfl⟩
theorem ix_k153 (pc : Nat) : ∃ K : Nat → Decoder Instr, Decoder.instr pc = Reader.u1 >>= K ∧ K 153 = Reader.s2 >>= fun v => Pure.pure (.ifCond .eq v) := ⟨_, rfl, rfl⟩
theorem ix_k154 (pc : Nat) : ∃ K : Nat → Decoder Instr, Decoder.instr pc = Reader.u1 >>= K ∧ K 154 = Reader.s2 >>= fun v => Pure.pure (.ifCond .ne v) := ⟨_, rfl, rfl⟩
theorem ix_k155 (pc : Nat) : ∃ K : Nat → Decoder Instr, Decoder.instr pc = Reader.u1 >>= K ∧ K 155 = Reader.s2 >>= fun v => Pure.pure (.ifCond .lt v) := ⟨_, rfl, rfl⟩
theorem ix_k156 (pc : Nat) : ∃ K : Nat → Decoder Instr, Decoder.instr pc = Reader.u1 >>= K ∧ K 156 = Reader.s2 >>= fun v => Pure.pure (.ifCond .ge v) := ⟨_, rfl, rfl⟩
theorem ix_k157 (pc : Nat) : ∃ K : Nat → Decoder Instr, Decoder.instr pc = Reader.u1 >>= K ∧ K 157 = Reader.s2 >>= fun v => Pure.pure (.ifCond .gt v) := ⟨_, rfl, rfl⟩
theorem ix_k158 (pc : Nat) : ∃ K : Nat → Decoder Instr, Decoder.instr pc = Reader.u1 >>= K ∧ K 158 = Reader.s2 >>= fun v => Pure.pure (.ifCond .le v) := ⟨_, rfl, rfl⟩
theorem ix_k159 (pc : Nat) : ∃ K : Nat → Decoder Instr, Decoder.instr pc = Reader.u1 >>= K ∧ K 159 = Reader.s2 >>= fun v => Pure.pure (.if_icmp .eq v) := ⟨_, rfl, rfl⟩
theorem ix_k160 (pc : Nat) : ∃ K : Nat → Decoder Instr, Decoder.instr pc = Reader.u1 >>= K ∧ K 160 = Reader.s2 >>= fun v => Pure.pure (.if_icmp .ne v) := ⟨_, rfl, rfl⟩
theorem ix_k161 (pc : Nat) : ∃ K : Nat → Decoder Instr, Decoder.instr pc = Reader.u1 >>= K ∧ K 161 = Reader.s2 >>= fun v => Pure.pure (.if_icmp .lt v) := ⟨_, rfl, rfl⟩
theorem ix_k162 (pc : Nat) : ∃ K : Nat → Decoder Instr, Decoder.instr pc = Reader.u1 >>= K ∧ K 162 = Reader.s2 >>= fun v => Pure.pure (.if_icmp .ge v) := ⟨_, rfl, rfl⟩
theorem ix_k163 (pc : Nat) : ∃ K : Nat → Decoder Instr, Decoder.instr pc = Reader.u1 >>= K ∧ K 163 = Reader.s2 >>= fun v => Pure.pure (.if_icmp .gt v) := ⟨_, rfl, rfl⟩
theorem ix_k164 (pc : Nat) : ∃ K : Nat → Decoder Instr, Decoder.instr pc = Reader.u1 >>= K ∧ K 164 = Reader.s2 >>= fun v => Pure.pure (.if_icmp .le v) := ⟨_, rfl, rfl⟩
theorem ix_k166 (pc : Nat) : ∃ K : Nat → Decoder Instr, Decoder.instr pc = Reader.u1 >>= K ∧ K 166 = Reader.s2 >>= fun v => Pure.pure (.if_acmp .ne v) := ⟨_, rfl, rfl⟩
theorem ix_k167 (pc : Nat) : ∃ K : Nat → Decoder Instr, Decoder.instr pc = Reader.u1 >>= K ∧ K 167 = Reader.s2 >>= fun v => Pure.pure (.goto v) := ⟨_, rfl, rfl⟩
theorem ix_k172 (pc : Nat) : ∃ K : Nat → Decoder Instr, Decoder.instr pc = Reader.u1 >>= K ∧ K 172 = Pure.pure .ireturn := ⟨_, rfl, rfl⟩
theorem ix_k173 (pc : Nat) : ∃ K : Nat → Decoder Instr, Decoder.instr pc = Reader.u1 >>= K ∧ K 173 = Pure.pure .lreturn := ⟨_, rfl, rfl⟩
theorem ix_k176 (pc : Nat) : ∃ K : Nat → Decoder Instr, Decoder.instr pc = Reader.u1 >>= K ∧ K 176 = Pure.pure .areturn := ⟨_, rfl, rfl⟩
theorem ix_k177 (pc : Nat) : ∃ K : Nat → Decoder Instr, Decoder.instr pc = Reader.u1 >>= K ∧ K 177 = Pure.pure .return_ := ⟨_, rfl, rfl⟩
theorem ix_k178 (pc : Nat) : ∃ K : Nat → Decoder Instr, Decoder.instr pc = Reader.u1 >>= K ∧ K 178 = Reader.u2 >>= fun v => Pure.pure (.getstatic v) := ⟨_, rfl, rfl⟩
theorem ix_k180 (pc : Nat) : ∃ K : Nat → Decoder Instr, Decoder.instr pc = Reader.u1 >>= K ∧ K 180 = Reader.u2 >>= fun v => Pure.pure (.getfield v) := ⟨_, rfl, rfl⟩
theorem ix_k181 (pc : Nat) : ∃ K : Nat → Decoder Instr, Decoder.instr pc = Reader.u1 >>= K ∧ K 181 = Reader.u2 >>= fun v => Pure.pure (.putfield v) := ⟨_, rfl, rfl⟩
theorem ix_k182 (pc : Nat) : ∃ K : Nat → Decoder Instr, Decoder.instr pc = Reader.u1 >>= K ∧ K 182 = Reader.u2 >>= fun v => Pure.pure (.invokevirtual v) := ⟨_, rfl, rfl⟩
theorem ix_k183 (pc : Nat) : ∃ K : Nat → Decoder Instr, Decoder.instr pc = Reader.u1 >>= K ∧ K 183 = Reader.u2 >>= fun v => Pure.pure (.invokespecial v) := ⟨_, rfl, rfl⟩
theorem ix_k184 (pc : Nat) : ∃ K : Nat → Decoder Instr, Decoder.instr pc = Reader.u1 >>= K ∧ K 184 = Reader.u2 >>= fun v => Pure.pure (.invokestatic v) := ⟨_, rfl, rfl⟩
theorem ix_k187 (pc : Nat) : ∃ K : Nat → Decoder Instr, Decoder.instr pc = Reader.u1 >>= K ∧ K 187 = Reader.u2 >>= fun v => Pure.pure (.new v) := ⟨_, rfl, rfl⟩
theorem ix_k189 (pc : Nat) : ∃ K : Nat → Decoder Instr, Decoder.instr pc = Reader.u1 >>= K ∧ K 189 = Reader.u2 >>= fun v => Pure.pure (.anewarray v) := ⟨_, rfl, rfl⟩
theorem ix_k190 (pc : Nat) : ∃ K : Nat → Decoder Instr, Decoder.instr pc = Reader.u1 >>= K ∧ K 190 = Pure.pure .arraylength := ⟨_, rfl, rfl⟩
theorem ix_k132 (pc : Nat) : ∃ K : Nat → Decoder Instr, Decoder.instr pc = Reader.u1 >>= K ∧ K 132 = Reader.u1 >>= fun v => Reader.s1 >>= fun w => Pure.pure (.iinc v w) := ⟨_, rfl, rfl⟩
theorem ix_k188 (pc : Nat) : ∃ K J : Nat → Decoder Instr, Decoder.instr pc = Reader.u1 >>= K ∧ K 188 = Reader.u1 >>= J ∧ J 4 = Pure.pure (.newarray .boolean) ∧ J 10 = Pure.pure (.newarray .int) ∧ J 11 = Pure.pure (.newarray .long) := ⟨_, _, rfl, rfl, rfl, rfl, rfl⟩
end
