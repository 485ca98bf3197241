/-! ===== the instructions out of the bytes in one pass ===== -/
section IXD
variable {b : ByteArray} {pc : Nat} {x y z : UInt8} {r : List UInt8}
theorem ix_u1 {p : Nat} (hl : b.data.toList.drop p = x :: r) : Reader.runAt (Reader.u1 : Decoder Nat) b p = .ok (x.toNat, p + 1) := by
  have hp : p < b.data.toList.length := by
    rcases Nat.lt_or_ge p b.data.toList.length with h | h
    · exact h
    · rw [List.drop_eq_nil_of_le h] at hl; cases hl
  have hs : p < b.size := hp
  have hx : b[p] = x := by
    have h1 : (b.data.toList.drop p)[0]? = some x := by rw [hl]; rfl
    rw [List.getElem?_drop, Nat.add_zero, List.getElem?_eq_getElem hp] at h1
    exact Option.some.inj h1
  rw [← hx]
  first
    | (simp [Reader.u1, Reader.runAt, hs]; done)
    | (show ((if h : p < b.size then _ else _ : Decoder Nat) b p) = _; rw [dif_pos hs]; rfl)
theorem ix_bnd {α β : Type} {q : Decoder α} {f : α → Decoder β} {p p' : Nat} {a : α} (h : Reader.runAt q b p = .ok (a, p')) : Reader.runAt (q >>= f) b p = Reader.runAt (f a) b p' := by
  have h2 : (ReaderT.run q b).run p = Except.ok (a, p') := h
  show Except.bind ((ReaderT.run q b).run p) _ = _
  rw [h2]
  rfl
theorem ix_dl {l1 l2 : List UInt8} {n : Nat} (h : b.data.toList.drop pc = l1 ++ l2) (hn : l1.length = n) : b.data.toList.drop (pc + n) = l2 := by
  rw [← List.drop_drop, h, ← hn, List.drop_left]
theorem ix_s1 {p : Nat} (hl : b.data.toList.drop p = x :: r) : Reader.runAt (Reader.s1 : Decoder Int) b p = .ok (Reader.signed 8 x.toNat, p + 1) := by
  have h := ix_u1 hl
  have h2 : (ReaderT.run (Reader.u1 : Decoder Nat) b).run p = Except.ok (x.toNat, p + 1) := h
  show Except.bind ((ReaderT.run (Reader.u1 : Decoder Nat) b).run p) _ = _
  rw [h2]
  rfl
theorem ix_u2 {p : Nat} (hl : b.data.toList.drop p = x :: y :: r) : Reader.runAt (Reader.u2 : Decoder Nat) b p = .ok (x.toNat * 256 + y.toNat, p + 2) := by
  have h1 := ix_u1 hl
  have h2 := ix_u1 (p := p + 1) (x := y) (r := r) (ix_dl (n := 1) (l1 := [x]) hl rfl)
  have e : (Reader.u2 : Decoder Nat) = Reader.u1 >>= fun hi => Reader.u1 >>= fun lo => Pure.pure (hi * 256 + lo) := rfl
  rw [e, ix_bnd h1, ix_bnd h2]
  rfl
theorem ix_s2 {p : Nat} (hl : b.data.toList.drop p = x :: y :: r) : Reader.runAt (Reader.s2 : Decoder Int) b p = .ok (Reader.signed 16 (x.toNat * 256 + y.toNat), p + 2) := by
  have h := ix_u2 hl
  have h2 : (ReaderT.run (Reader.u2 : Decoder Nat) b).run p = Except.ok (x.toNat * 256 + y.toNat, p + 2) := h
  show Except.bind ((ReaderT.run (Reader.u2 : Decoder Nat) b).run p) _ = _
  rw [h2]
  rfl
theorem ix_dfin {i : Instr} {n : Nat} (h : Reader.runAt (Decoder.instr pc) b pc = .ok (i, pc + n)) : decode b pc = .ok (i, n) := by
  show Except.bind (Reader.runAt (Decoder.instr pc) b pc) _ = _
  rw [h]
  show Except.ok (i, pc + n - pc) = Except.ok (i, n)
  rw [Nat.add_sub_cancel_left]
theorem ix_d0 {i : Instr} {K : Nat → Decoder Instr} (hl : b.data.toList.drop pc = x :: r) (hK : Decoder.instr pc = Reader.u1 >>= K) (h1 : K x.toNat = Pure.pure i) : decode b pc = .ok (i, 1) := by
  refine ix_dfin ?_
  rw [hK, ix_bnd (ix_u1 hl), h1]
  rfl
theorem ix_d1 {f : Nat → Instr} {K : Nat → Decoder Instr} (hl : b.data.toList.drop pc = x :: y :: r) (hK : Decoder.instr pc = Reader.u1 >>= K) (h1 : K x.toNat = Reader.u1 >>= fun v => Pure.pure (f v)) : decode b pc = .ok (f y.toNat, 2) := by
  refine ix_dfin ?_
  rw [hK, ix_bnd (ix_u1 hl), h1, ix_bnd (ix_u1 (ix_dl (n := 1) (l1 := [x]) hl rfl))]
  rfl
theorem ix_d1s {f : Int → Instr} {K : Nat → Decoder Instr} (hl : b.data.toList.drop pc = x :: y :: r) (hK : Decoder.instr pc = Reader.u1 >>= K) (h1 : K x.toNat = Reader.s1 >>= fun v => Pure.pure (f v)) : decode b pc = .ok (f (Reader.signed 8 y.toNat), 2) := by
  refine ix_dfin ?_
  rw [hK, ix_bnd (ix_u1 hl), h1, ix_bnd (ix_s1 (ix_dl (n := 1) (l1 := [x]) hl rfl))]
  rfl
theorem ix_d2 {f : Nat → Instr} {K : Nat → Decoder Instr} (hl : b.data.toList.drop pc = x :: y :: z :: r) (hK : Decoder.instr pc = Reader.u1 >>= K) (h1 : K x.toNat = Reader.u2 >>= fun v => Pure.pure (f v)) : decode b pc = .ok (f (y.toNat * 256 + z.toNat), 3) := by
  refine ix_dfin ?_
  rw [hK, ix_bnd (ix_u1 hl), h1, ix_bnd (ix_u2 (ix_dl (n := 1) (l1 := [x]) hl rfl))]
  rfl
theorem ix_d2s {f : Int → Instr} {K : Nat → Decoder Instr} (hl : b.data.toList.drop pc = x :: y :: z :: r) (hK : Decoder.instr pc = Reader.u1 >>= K) (h1 : K x.toNat = Reader.s2 >>= fun v => Pure.pure (f v)) : decode b pc = .ok (f (Reader.signed 16 (y.toNat * 256 + z.toNat)), 3) := by
  refine ix_dfin ?_
  rw [hK, ix_bnd (ix_u1 hl), h1, ix_bnd (ix_s2 (ix_dl (n := 1) (l1 := [x]) hl rfl))]
  rfl
end IXD
theorem ix_k1 (pc : Nat) : ∃ K : Nat → Decoder Instr, Decoder.instr pc = Reader.u1 >>= K ∧ K 1 = Pure.pure .aconst_null := ⟨_, rfl, rfl⟩
theorem ix_k2 (pc : Nat) : ∃ K : Nat → Decoder Instr, Decoder.instr pc = Reader.u1 >>= K ∧ K 2 = Pure.pure (.iconst (-1)) := ⟨_, rfl, rfl⟩
theorem ix_k3 (pc : Nat) : ∃ K : Nat → Decoder Instr, Decoder.instr pc = Reader.u1 >>= K ∧ K 3 = Pure.pure (.iconst 0) := ⟨_, rfl, rfl⟩
theorem ix_k4 (pc : Nat) : ∃ K : Nat → Decoder Instr, Decoder.instr pc = Reader.u1 >>= K ∧ K 4 = Pure.pure (.iconst 1) := ⟨_, rfl, rfl⟩
theorem ix_k5 (pc : Nat) : ∃ K : Nat → Decoder Instr, Decoder.instr pc = Reader.u1 >>= K ∧ K 5 = Pure.pure (.iconst 2) := ⟨_, rfl, rfl⟩
theorem ix_k6 (pc : Nat) : ∃ K : Nat → Decoder Instr, Decoder.instr pc = Reader.u1 >>= K ∧ K 6 = Pure.pure (.iconst 3) := ⟨_, rfl, rfl⟩
theorem ix_k7 (pc : Nat) : ∃ K : Nat → Decoder Instr, Decoder.instr pc = Reader.u1 >>= K ∧ K 7 = Pure.pure (.iconst 4) := ⟨_, rfl, rfl⟩
theorem ix_k8 (pc : Nat) : ∃ K : Nat → Decoder Instr, Decoder.instr pc = Reader.u1 >>= K ∧ K 8 = Pure.pure (.iconst 5) := ⟨_, rfl, rfl⟩
theorem ix_k9 (pc : Nat) : ∃ K : Nat → Decoder Instr, Decoder.instr pc = Reader.u1 >>= K ∧ K 9 = Pure.pure (.lconst 0) := ⟨_, rfl, rfl⟩
theorem ix_k10 (pc : Nat) : ∃ K : Nat → Decoder Instr, Decoder.instr pc = Reader.u1 >>= K ∧ K 10 = Pure.pure (.lconst 1) := ⟨_, rfl, rfl⟩
theorem ix_k16 (pc : Nat) : ∃ K : Nat → Decoder Instr, Decoder.instr pc = Reader.u1 >>= K ∧ K 16 = Reader.s1 >>= fun v => Pure.pure (.bipush v) := ⟨_, rfl, rfl⟩
theorem ix_k17 (pc : Nat) : ∃ K : Nat → Decoder Instr, Decoder.instr pc = Reader.u1 >>= K ∧ K 17 = Reader.s2 >>= fun v => Pure.pure (.sipush v) := ⟨_, rfl, rfl⟩
theorem ix_k18 (pc : Nat) : ∃ K : Nat → Decoder Instr, Decoder.instr pc = Reader.u1 >>= K ∧ K 18 = Reader.u1 >>= fun v => Pure.pure (.ldc v) := ⟨_, rfl, rfl⟩
theorem ix_k19 (pc : Nat) : ∃ K : Nat → Decoder Instr, Decoder.instr pc = Reader.u1 >>= K ∧ K 19 = Reader.u2 >>= fun v => Pure.pure (.ldc_w v) := ⟨_, rfl, rfl⟩
theorem ix_k20 (pc : Nat) : ∃ K : Nat → Decoder Instr, Decoder.instr pc = Reader.u1 >>= K ∧ K 20 = Reader.u2 >>= fun v => Pure.pure (.ldc2_w v) := ⟨_, rfl, rfl⟩
theorem ix_k21 (pc : Nat) : ∃ K : Nat → Decoder Instr, Decoder.instr pc = Reader.u1 >>= K ∧ K 21 = Reader.u1 >>= fun v => Pure.pure (.iload v) := ⟨_, rfl, rfl⟩
theorem ix_k22 (pc : Nat) : ∃ K : Nat → Decoder Instr, Decoder.instr pc = Reader.u1 >>= K ∧ K 22 = Reader.u1 >>= fun v => Pure.pure (.lload v) := ⟨_, rfl, rfl⟩
theorem ix_k25 (pc : Nat) : ∃ K : Nat → Decoder Instr, Decoder.instr pc = Reader.u1 >>= K ∧ K 25 = Reader.u1 >>= fun v => Pure.pure (.aload v) := ⟨_, rfl, rfl⟩
theorem ix_k26 (pc : Nat) : ∃ K : Nat → Decoder Instr, Decoder.instr pc = Reader.u1 >>= K ∧ K 26 = Pure.pure (.iload_n 0) := ⟨_, rfl, rfl⟩
theorem ix_k27 (pc : Nat) : ∃ K : Nat → Decoder Instr, Decoder.instr pc = Reader.u1 >>= K ∧ K 27 = Pure.pure (.iload_n 1) := ⟨_, rfl, rfl⟩
theorem ix_k28 (pc : Nat) : ∃ K : Nat → Decoder Instr, Decoder.instr pc = Reader.u1 >>= K ∧ K 28 = Pure.pure (.iload_n 2) := ⟨_, rfl, rfl⟩
theorem ix_k29 (pc : Nat) : ∃ K : Nat → Decoder Instr, Decoder.instr pc = Reader.u1 >>= K ∧ K 29 = Pure.pure (.iload_n 3) := ⟨_, rfl, rfl⟩
theorem ix_k30 (pc : Nat) : ∃ K : Nat → Decoder Instr, Decoder.instr pc = Reader.u1 >>= K ∧ K 30 = Pure.pure (.lload_n 0) := ⟨_, rfl, rfl⟩
theorem ix_k31 (pc : Nat) : ∃ K : Nat → Decoder Instr, Decoder.instr pc = Reader.u1 >>= K ∧ K 31 = Pure.pure (.lload_n 1) := ⟨_, rfl, rfl⟩
theorem ix_k32 (pc : Nat) : ∃ K : Nat → Decoder Instr, Decoder.instr pc = Reader.u1 >>= K ∧ K 32 = Pure.pure (.lload_n 2) := ⟨_, rfl, rfl⟩
theorem ix_k33 (pc : Nat) : ∃ K : Nat → Decoder Instr, Decoder.instr pc = Reader.u1 >>= K ∧ K 33 = Pure.pure (.lload_n 3) := ⟨_, rfl, rfl⟩
theorem ix_k42 (pc : Nat) : ∃ K : Nat → Decoder Instr, Decoder.instr pc = Reader.u1 >>= K ∧ K 42 = Pure.pure (.aload_n 0) := ⟨_, rfl, rfl⟩
theorem ix_k43 (pc : Nat) : ∃ K : Nat → Decoder Instr, Decoder.instr pc = Reader.u1 >>= K ∧ K 43 = Pure.pure (.aload_n 1) := ⟨_, rfl, rfl⟩
theorem ix_k44 (pc : Nat) : ∃ K : Nat → Decoder Instr, Decoder.instr pc = Reader.u1 >>= K ∧ K 44 = Pure.pure (.aload_n 2) := ⟨_, rfl, rfl⟩
theorem ix_k45 (pc : Nat) : ∃ K : Nat → Decoder Instr, Decoder.instr pc = Reader.u1 >>= K ∧ K 45 = Pure.pure (.aload_n 3) := ⟨_, rfl, rfl⟩
theorem ix_k46 (pc : Nat) : ∃ K : Nat → Decoder Instr, Decoder.instr pc = Reader.u1 >>= K ∧ K 46 = Pure.pure .iaload := ⟨_, rfl, rfl⟩
theorem ix_k47 (pc : Nat) : ∃ K : Nat → Decoder Instr, Decoder.instr pc = Reader.u1 >>= K ∧ K 47 = Pure.pure .laload := ⟨_, rfl, rfl⟩
theorem ix_k50 (pc : Nat) : ∃ K : Nat → Decoder Instr, Decoder.instr pc = Reader.u1 >>= K ∧ K 50 = Pure.pure .aaload := ⟨_, rfl, rfl⟩
theorem ix_k51 (pc : Nat) : ∃ K : Nat → Decoder Instr, Decoder.instr pc = Reader.u1 >>= K ∧ K 51 = Pure.pure .baload := ⟨_, rfl, rfl⟩
theorem ix_k54 (pc : Nat) : ∃ K : Nat → Decoder Instr, Decoder.instr pc = Reader.u1 >>= K ∧ K 54 = Reader.u1 >>= fun v => Pure.pure (.istore v) := ⟨_, rfl, rfl⟩
theorem ix_k55 (pc : Nat) : ∃ K : Nat → Decoder Instr, Decoder.instr pc = Reader.u1 >>= K ∧ K 55 = Reader.u1 >>= fun v => Pure.pure (.lstore v) := ⟨_, rfl, rfl⟩
theorem ix_k58 (pc : Nat) : ∃ K : Nat → Decoder Instr, Decoder.instr pc = Reader.u1 >>= K ∧ K 58 = Reader.u1 >>= fun v => Pure.pure (.astore v) := ⟨_, rfl, rfl⟩
theorem ix_k59 (pc : Nat) : ∃ K : Nat → Decoder Instr, Decoder.instr pc = Reader.u1 >>= K ∧ K 59 = Pure.pure (.istore_n 0) := ⟨_, rfl, rfl⟩
theorem ix_k60 (pc : Nat) : ∃ K : Nat → Decoder Instr, Decoder.instr pc = Reader.u1 >>= K ∧ K 60 = Pure.pure (.istore_n 1) := ⟨_, rfl, rfl⟩
theorem ix_k61 (pc : Nat) : ∃ K : Nat → Decoder Instr, Decoder.instr pc = Reader.u1 >>= K ∧ K 61 = Pure.pure (.istore_n 2) := ⟨_, rfl, rfl⟩
theorem ix_k62 (pc : Nat) : ∃ K : Nat → Decoder Instr, Decoder.instr pc = Reader.u1 >>= K ∧ K 62 = Pure.pure (.istore_n 3) := ⟨_, rfl, rfl⟩
theorem ix_k63 (pc : Nat) : ∃ K : Nat → Decoder Instr, Decoder.instr pc = Reader.u1 >>= K ∧ K 63 = Pure.pure (.lstore_n 0) := ⟨_, rfl, rfl⟩
theorem ix_k64 (pc : Nat) : ∃ K : Nat → Decoder Instr, Decoder.instr pc = Reader.u1 >>= K ∧ K 64 = Pure.pure (.lstore_n 1) := ⟨_, rfl, rfl⟩
theorem ix_k65 (pc : Nat) : ∃ K : Nat → Decoder Instr, Decoder.instr pc = Reader.u1 >>= K ∧ K 65 = Pure.pure (.lstore_n 2) := ⟨_, rfl, rfl⟩
theorem ix_k66 (pc : Nat) : ∃ K : Nat → Decoder Instr, Decoder.instr pc = Reader.u1 >>= K ∧ K 66 = Pure.pure (.lstore_n 3) := ⟨_, rfl, rfl⟩
theorem ix_k75 (pc : Nat) : ∃ K : Nat → Decoder Instr, Decoder.instr pc = Reader.u1 >>= K ∧ K 75 = Pure.pure (.astore_n 0) := ⟨_, rfl, rfl⟩
theorem ix_k76 (pc : Nat) : ∃ K : Nat → Decoder Instr, Decoder.instr pc = Reader.u1 >>= K ∧ K 76 = Pure.pure (.astore_n 1) := ⟨_, rfl, rfl⟩
theorem ix_k77 (pc : Nat) : ∃ K : Nat → Decoder Instr, Decoder.instr pc = Reader.u1 >>= K ∧ K 77 = Pure.pure (.astore_n 2) := ⟨_, rfl, rfl⟩
theorem ix_k78 (pc : Nat) : ∃ K : Nat → Decoder Instr, Decoder.instr pc = Reader.u1 >>= K ∧ K 78 = Pure.pure (.astore_n 3) := ⟨_, rfl, rfl⟩
theorem ix_k79 (pc : Nat) : ∃ K : Nat → Decoder Instr, Decoder.instr pc = Reader.u1 >>= K ∧ K 79 = Pure.pure .iastore := ⟨_, rfl, rfl⟩
theorem ix_k80 (pc : Nat) : ∃ K : Nat → Decoder Instr, Decoder.instr pc = Reader.u1 >>= K ∧ K 80 = Pure.pure .lastore := ⟨_, rfl, rfl⟩
theorem ix_k83 (pc : Nat) : ∃ K : Nat → Decoder Instr, Decoder.instr pc = Reader.u1 >>= K ∧ K 83 = Pure.pure .aastore := ⟨_, rfl, rfl⟩
theorem ix_k84 (pc : Nat) : ∃ K : Nat → Decoder Instr, Decoder.instr pc = Reader.u1 >>= K ∧ K 84 = Pure.pure .bastore := ⟨_, rfl, rfl⟩
theorem ix_k87 (pc : Nat) : ∃ K : Nat → Decoder Instr, Decoder.instr pc = Reader.u1 >>= K ∧ K 87 = Pure.pure .pop := ⟨_, rfl, rfl⟩
theorem ix_k88 (pc : Nat) : ∃ K : Nat → Decoder Instr, Decoder.instr pc = Reader.u1 >>= K ∧ K 88 = Pure.pure .pop2 := ⟨_, rfl, rfl⟩
theorem ix_k89 (pc : Nat) : ∃ K : Nat → Decoder Instr, Decoder.instr pc = Reader.u1 >>= K ∧ K 89 = Pure.pure .dup := ⟨_, rfl, rfl⟩
theorem ix_k90 (pc : Nat) : ∃ K : Nat → Decoder Instr, Decoder.instr pc = Reader.u1 >>= K ∧ K 90 = Pure.pure .dup_x1 := ⟨_, rfl, rfl⟩
theorem ix_k91 (pc : Nat) : ∃ K : Nat → Decoder Instr, Decoder.instr pc = Reader.u1 >>= K ∧ K 91 = Pure.pure .dup_x2 := ⟨_, rfl, rfl⟩
theorem ix_k92 (pc : Nat) : ∃ K : Nat → Decoder Instr, Decoder.instr pc = Reader.u1 >>= K ∧ K 92 = Pure.pure .dup2 := ⟨_, rfl, rfl⟩
theorem ix_k93 (pc : Nat) : ∃ K : Nat → Decoder Instr, Decoder.instr pc = Reader.u1 >>= K ∧ K 93 = Pure.pure .dup2_x1 := ⟨_, rfl, rfl⟩
theorem ix_k94 (pc : Nat) : ∃ K : Nat → Decoder Instr, Decoder.instr pc = Reader.u1 >>= K ∧ K 94 = Pure.pure .dup2_x2 := ⟨_, rfl, rfl⟩
theorem ix_k96 (pc : Nat) : ∃ K : Nat → Decoder Instr, Decoder.instr pc = Reader.u1 >>= K ∧ K 96 = Pure.pure .iadd := ⟨_, rfl, rfl⟩
theorem ix_k97 (pc : Nat) : ∃ K : Nat → Decoder Instr, Decoder.instr pc = Reader.u1 >>= K ∧ K 97 = Pure.pure .ladd := ⟨_, rfl, rfl⟩
theorem ix_k100 (pc : Nat) : ∃ K : Nat → Decoder Instr, Decoder.instr pc = Reader.u1 >>= K ∧ K 100 = Pure.pure .isub := ⟨_, rfl, rfl⟩
theorem ix_k101 (pc : Nat) : ∃ K : Nat → Decoder Instr, Decoder.instr pc = Reader.u1 >>= K ∧ K 101 = Pure.pure .lsub := ⟨_, rfl, rfl⟩
theorem ix_k104 (pc : Nat) : ∃ K : Nat → Decoder Instr, Decoder.instr pc = Reader.u1 >>= K ∧ K 104 = Pure.pure .imul := ⟨_, rfl, rfl⟩
theorem ix_k105 (pc : Nat) : ∃ K : Nat → Decoder Instr, Decoder.instr pc = Reader.u1 >>= K ∧ K 105 = Pure.pure .lmul := ⟨_, rfl, rfl⟩
theorem ix_k108 (pc : Nat) : ∃ K : Nat → Decoder Instr, Decoder.instr pc = Reader.u1 >>= K ∧ K 108 = Pure.pure .idiv := ⟨_, rfl, rfl⟩
theorem ix_k109 (pc : Nat) : ∃ K : Nat → Decoder Instr, Decoder.instr pc = Reader.u1 >>= K ∧ K 109 = Pure.pure .ldiv := ⟨_, rfl, rfl⟩
theorem ix_k112 (pc : Nat) : ∃ K : Nat → Decoder Instr, Decoder.instr pc = Reader.u1 >>= K ∧ K 112 = Pure.pure .irem := ⟨_, rfl, rfl⟩
theorem ix_k113 (pc : Nat) : ∃ K : Nat → Decoder Instr, Decoder.instr pc = Reader.u1 >>= K ∧ K 113 = Pure.pure .lrem := ⟨_, rfl, rfl⟩
theorem ix_k116 (pc : Nat) : ∃ K : Nat → Decoder Instr, Decoder.instr pc = Reader.u1 >>= K ∧ K 116 = Pure.pure .ineg := ⟨_, rfl, rfl⟩
theorem ix_k117 (pc : Nat) : ∃ K : Nat → Decoder Instr, Decoder.instr pc = Reader.u1 >>= K ∧ K 117 = Pure.pure .lneg := ⟨_, rfl, rfl⟩
theorem ix_k120 (pc : Nat) : ∃ K : Nat → Decoder Instr, Decoder.instr pc = Reader.u1 >>= K ∧ K 120 = Pure.pure .ishl := ⟨_, rfl, rfl⟩
theorem ix_k121 (pc : Nat) : ∃ K : Nat → Decoder Instr, Decoder.instr pc = Reader.u1 >>= K ∧ K 121 = Pure.pure .lshl := ⟨_, rfl, rfl⟩
theorem ix_k122 (pc : Nat) : ∃ K : Nat → Decoder Instr, Decoder.instr pc = Reader.u1 >>= K ∧ K 122 = Pure.pure .ishr := ⟨_, rfl, rfl⟩
theorem ix_k123 (pc : Nat) : ∃ K : Nat → Decoder Instr, Decoder.instr pc = Reader.u1 >>= K ∧ K 123 = Pure.pure .lshr := ⟨_, rfl, rfl⟩
theorem ix_k124 (pc : Nat) : ∃ K : Nat → Decoder Instr, Decoder.instr pc = Reader.u1 >>= K ∧ K 124 = Pure.pure .iushr := ⟨_, rfl, rfl⟩
theorem ix_k125 (pc : Nat) : ∃ K : Nat → Decoder Instr, Decoder.instr pc = Reader.u1 >>= K ∧ K 125 = Pure.pure .lushr := ⟨_, rfl, rfl⟩
theorem ix_k126 (pc : Nat) : ∃ K : Nat → Decoder Instr, Decoder.instr pc = Reader.u1 >>= K ∧ K 126 = Pure.pure .iand := ⟨_, rfl, rfl⟩
theorem ix_k127 (pc : Nat) : ∃ K : Nat → Decoder Instr, Decoder.instr pc = Reader.u1 >>= K ∧ K 127 = Pure.pure .land := ⟨_, rfl, rfl⟩
theorem ix_k128 (pc : Nat) : ∃ K : Nat → Decoder Instr, Decoder.instr pc = Reader.u1 >>= K ∧ K 128 = Pure.pure .ior := ⟨_, rfl, rfl⟩
theorem ix_k129 (pc : Nat) : ∃ K : Nat → Decoder Instr, Decoder.instr pc = Reader.u1 >>= K ∧ K 129 = Pure.pure .lor := ⟨_, rfl, rfl⟩
theorem ix_k130 (pc : Nat) : ∃ K : Nat → Decoder Instr, Decoder.instr pc = Reader.u1 >>= K ∧ K 130 = Pure.pure .ixor := ⟨_, rfl, rfl⟩
theorem ix_k131 (pc : Nat) : ∃ K : Nat → Decoder Instr, Decoder.instr pc = Reader.u1 >>= K ∧ K 131 = Pure.pure .lxor := ⟨_, rfl, rfl⟩
theorem ix_k133 (pc : Nat) : ∃ K : Nat → Decoder Instr, Decoder.instr pc = Reader.u1 >>= K ∧ K 133 = Pure.pure .i2l := ⟨_, rfl, rfl⟩
theorem ix_k136 (pc : Nat) : ∃ K : Nat → Decoder Instr, Decoder.instr pc = Reader.u1 >>= K ∧ K 136 = Pure.pure .l2i := ⟨_, rfl, rfl⟩
theorem ix_k145 (pc : Nat) : ∃ K : Nat → Decoder Instr, Decoder.instr pc = Reader.u1 >>= K ∧ K 145 = Pure.pure .i2b := ⟨_, rfl, rfl⟩
theorem ix_k146 (pc : Nat) : ∃ K : Nat → Decoder Instr, Decoder.instr pc = Reader.u1 >>= K ∧ K 146 = Pure.pure .i2c := ⟨_, rfl, rfl⟩
theorem ix_k147 (pc : Nat) : ∃ K : Nat → Decoder Instr, Decoder.instr pc = Reader.u1 >>= K ∧ K 147 = Pure.pure .i2s := ⟨_, rfl, rfl⟩
theorem ix_k148 (pc : Nat) : ∃ K : Nat → Decoder Instr, Decoder.instr pc = Reader.u1 >>= K ∧ K 148 = Pure.pure .lcmp := ⟨_, rfl, rfl⟩
theorem ix_k153 (pc : Nat) : ∃ K : Nat → Decoder Instr, Decoder.instr pc = Reader.u1 >>= K ∧ K 153 = Reader.s2 >>= fun v => Pure.pure (.ifCond .eq v) := ⟨_, rfl, rfl⟩
theorem ix_k154 (pc : Nat) : ∃ K : Nat → Decoder Instr, Decoder.instr pc = Reader.u1 >>= K ∧ K 154 = Reader.s2 >>= fun v => Pure.pure (.ifCond .ne v) := ⟨_, rfl, rfl⟩
theorem ix_k155 (pc : Nat) : ∃ K : Nat → Decoder Instr, Decoder.instr pc = Reader.u1 >>= K ∧ K 155 = Reader.s2 >>= fun v => Pure.pure (.ifCond .lt v) := ⟨_, rfl, rfl⟩
theorem ix_k156 (pc : Nat) : ∃ K : Nat → Decoder Instr, Decoder.instr pc = Reader.u1 >>= K ∧ K 156 = Reader.s2 >>= fun v => Pure.pure (.ifCond .ge v) := ⟨_, rfl, rfl⟩
theorem ix_k157 (pc : Nat) : ∃ K : Nat → Decoder Instr, Decoder.instr pc = Reader.u1 >>= K ∧ K 157 = Reader.s2 >>= fun v => Pure.pure (.ifCond .gt v) := ⟨_, rfl, rfl⟩
theorem ix_k158 (pc : Nat) : ∃ K : Nat → Decoder Instr, Decoder.instr pc = Reader.u1 >>= K ∧ K 158 = Reader.s2 >>= fun v => Pure.pure (.ifCond .le v) := ⟨_, rfl, rfl⟩
theorem ix_k159 (pc : Nat) : ∃ K : Nat → Decoder Instr, Decoder.instr pc = Reader.u1 >>= K ∧ K 159 = Reader.s2 >>= fun v => Pure.pure (.if_icmp .eq v) := ⟨_, rfl, rfl⟩
theorem ix_k160 (pc : Nat) : ∃ K : Nat → Decoder Instr, Decoder.instr pc = Reader.u1 >>= K ∧ K 160 = Reader.s2 >>= fun v => Pure.pure (.if_icmp .ne v) := ⟨_, rfl, rfl⟩
theorem ix_k161 (pc : Nat) : ∃ K : Nat → Decoder Instr, Decoder.instr pc = Reader.u1 >>= K ∧ K 161 = Reader.s2 >>= fun v => Pure.pure (.if_icmp .lt v) := ⟨_, rfl, rfl⟩
theorem ix_k162 (pc : Nat) : ∃ K : Nat → Decoder Instr, Decoder.instr pc = Reader.u1 >>= K ∧ K 162 = Reader.s2 >>= fun v => Pure.pure (.if_icmp .ge v) := ⟨_, rfl, rfl⟩
theorem ix_k163 (pc : Nat) : ∃ K : Nat → Decoder Instr, Decoder.instr pc = Reader.u1 >>= K ∧ K 163 = Reader.s2 >>= fun v => Pure.pure (.if_icmp .gt v) := ⟨_, rfl, rfl⟩
theorem ix_k164 (pc : Nat) : ∃ K : Nat → Decoder Instr, Decoder.instr pc = Reader.u1 >>= K ∧ K 164 = Reader.s2 >>= fun v => Pure.pure (.if_icmp .le v) := ⟨_, rfl, rfl⟩
theorem ix_k166 (pc : Nat) : ∃ K : Nat → Decoder Instr, Decoder.instr pc = Reader.u1 >>= K ∧ K 166 = Reader.s2 >>= fun v => Pure.pure (.if_acmp .ne v) := ⟨_, rfl, rfl⟩
theorem ix_k167 (pc : Nat) : ∃ K : Nat → Decoder Instr, Decoder.instr pc = Reader.u1 >>= K ∧ K 167 = Reader.s2 >>= fun v => Pure.pure (.goto v) := ⟨_, rfl, rfl⟩
theorem ix_k172 (pc : Nat) : ∃ K : Nat → Decoder Instr, Decoder.instr pc = Reader.u1 >>= K ∧ K 172 = Pure.pure .ireturn := ⟨_, rfl, rfl⟩
theorem ix_k173 (pc : Nat) : ∃ K : Nat → Decoder Instr, Decoder.instr pc = Reader.u1 >>= K ∧ K 173 = Pure.pure .lreturn := ⟨_, rfl, rfl⟩
theorem ix_k176 (pc : Nat) : ∃ K : Nat → Decoder Instr, Decoder.instr pc = Reader.u1 >>= K ∧ K 176 = Pure.pure .areturn := ⟨_, rfl, rfl⟩
theorem ix_k177 (pc : Nat) : ∃ K : Nat → Decoder Instr, Decoder.instr pc = Reader.u1 >>= K ∧ K 177 = Pure.pure .return_ := ⟨_, rfl, rfl⟩
theorem ix_k178 (pc : Nat) : ∃ K : Nat → Decoder Instr, Decoder.instr pc = Reader.u1 >>= K ∧ K 178 = Reader.u2 >>= fun v => Pure.pure (.getstatic v) := ⟨_, rfl, rfl⟩
theorem ix_k180 (pc : Nat) : ∃ K : Nat → Decoder Instr, Decoder.instr pc = Reader.u1 >>= K ∧ K 180 = Reader.u2 >>= fun v => Pure.pure (.getfield v) := ⟨_, rfl, rfl⟩
theorem ix_k181 (pc : Nat) : ∃ K : Nat → Decoder Instr, Decoder.instr pc = Reader.u1 >>= K ∧ K 181 = Reader.u2 >>= fun v => Pure.pure (.putfield v) := ⟨_, rfl, rfl⟩
theorem ix_k182 (pc : Nat) : ∃ K : Nat → Decoder Instr, Decoder.instr pc = Reader.u1 >>= K ∧ K 182 = Reader.u2 >>= fun v => Pure.pure (.invokevirtual v) := ⟨_, rfl, rfl⟩
theorem ix_k183 (pc : Nat) : ∃ K : Nat → Decoder Instr, Decoder.instr pc = Reader.u1 >>= K ∧ K 183 = Reader.u2 >>= fun v => Pure.pure (.invokespecial v) := ⟨_, rfl, rfl⟩
theorem ix_k184 (pc : Nat) : ∃ K : Nat → Decoder Instr, Decoder.instr pc = Reader.u1 >>= K ∧ K 184 = Reader.u2 >>= fun v => Pure.pure (.invokestatic v) := ⟨_, rfl, rfl⟩
theorem ix_k187 (pc : Nat) : ∃ K : Nat → Decoder Instr, Decoder.instr pc = Reader.u1 >>= K ∧ K 187 = Reader.u2 >>= fun v => Pure.pure (.new v) := ⟨_, rfl, rfl⟩
theorem ix_k189 (pc : Nat) : ∃ K : Nat → Decoder Instr, Decoder.instr pc = Reader.u1 >>= K ∧ K 189 = Reader.u2 >>= fun v => Pure.pure (.anewarray v) := ⟨_, rfl, rfl⟩
theorem ix_k190 (pc : Nat) : ∃ K : Nat → Decoder Instr, Decoder.instr pc = Reader.u1 >>= K ∧ K 190 = Pure.pure .arraylength := ⟨_, rfl, rfl⟩
theorem ix_k132 (pc : Nat) : ∃ K : Nat → Decoder Instr, Decoder.instr pc = Reader.u1 >>= K ∧ K 132 = Reader.u1 >>= fun v => Reader.s1 >>= fun w => Pure.pure (.iinc v w) := ⟨_, rfl, rfl⟩
theorem ix_k188 (pc : Nat) : ∃ K J : Nat → Decoder Instr, Decoder.instr pc = Reader.u1 >>= K ∧ K 188 = Reader.u1 >>= J ∧ J 4 = Pure.pure (.newarray .boolean) ∧ J 10 = Pure.pure (.newarray .int) ∧ J 11 = Pure.pure (.newarray .long) := ⟨_, _, rfl, rfl, rfl, rfl, rfl⟩
def ix_en : Instr → List UInt8 → Bool
  | .aconst_null, x :: _ => Nat.beq x.toNat 1
  | .iaload, x :: _ => Nat.beq x.toNat 46
  | .laload, x :: _ => Nat.beq x.toNat 47
  | .aaload, x :: _ => Nat.beq x.toNat 50
  | .baload, x :: _ => Nat.beq x.toNat 51
  | .iastore, x :: _ => Nat.beq x.toNat 79
  | .lastore, x :: _ => Nat.beq x.toNat 80
  | .aastore, x :: _ => Nat.beq x.toNat 83
  | .bastore, x :: _ => Nat.beq x.toNat 84
  | .pop, x :: _ => Nat.beq x.toNat 87
  | .pop2, x :: _ => Nat.beq x.toNat 88
  | .dup, x :: _ => Nat.beq x.toNat 89
  | .dup_x1, x :: _ => Nat.beq x.toNat 90
  | .dup_x2, x :: _ => Nat.beq x.toNat 91
  | .dup2, x :: _ => Nat.beq x.toNat 92
  | .dup2_x1, x :: _ => Nat.beq x.toNat 93
  | .dup2_x2, x :: _ => Nat.beq x.toNat 94
  | .iadd, x :: _ => Nat.beq x.toNat 96
  | .ladd, x :: _ => Nat.beq x.toNat 97
  | .isub, x :: _ => Nat.beq x.toNat 100
  | .lsub, x :: _ => Nat.beq x.toNat 101
  | .imul, x :: _ => Nat.beq x.toNat 104
  | .lmul, x :: _ => Nat.beq x.toNat 105
  | .idiv, x :: _ => Nat.beq x.toNat 108
  | .ldiv, x :: _ => Nat.beq x.toNat 109
  | .irem, x :: _ => Nat.beq x.toNat 112
  | .lrem, x :: _ => Nat.beq x.toNat 113
  | .ineg, x :: _ => Nat.beq x.toNat 116
  | .lneg, x :: _ => Nat.beq x.toNat 117
  | .ishl, x :: _ => Nat.beq x.toNat 120
  | .lshl, x :: _ => Nat.beq x.toNat 121
  | .ishr, x :: _ => Nat.beq x.toNat 122
  | .lshr, x :: _ => Nat.beq x.toNat 123
  | .iushr, x :: _ => Nat.beq x.toNat 124
  | .lushr, x :: _ => Nat.beq x.toNat 125
  | .iand, x :: _ => Nat.beq x.toNat 126
  | .land, x :: _ => Nat.beq x.toNat 127
  | .ior, x :: _ => Nat.beq x.toNat 128
  | .lor, x :: _ => Nat.beq x.toNat 129
  | .ixor, x :: _ => Nat.beq x.toNat 130
  | .lxor, x :: _ => Nat.beq x.toNat 131
  | .i2l, x :: _ => Nat.beq x.toNat 133
  | .l2i, x :: _ => Nat.beq x.toNat 136
  | .i2b, x :: _ => Nat.beq x.toNat 145
  | .i2c, x :: _ => Nat.beq x.toNat 146
  | .i2s, x :: _ => Nat.beq x.toNat 147
  | .lcmp, x :: _ => Nat.beq x.toNat 148
  | .ireturn, x :: _ => Nat.beq x.toNat 172
  | .lreturn, x :: _ => Nat.beq x.toNat 173
  | .areturn, x :: _ => Nat.beq x.toNat 176
  | .return_, x :: _ => Nat.beq x.toNat 177
  | .arraylength, x :: _ => Nat.beq x.toNat 190
  | .iload_n k, x :: _ => Nat.beq x.toNat (26 + k.val)
  | .lload_n k, x :: _ => Nat.beq x.toNat (30 + k.val)
  | .aload_n k, x :: _ => Nat.beq x.toNat (42 + k.val)
  | .istore_n k, x :: _ => Nat.beq x.toNat (59 + k.val)
  | .lstore_n k, x :: _ => Nat.beq x.toNat (63 + k.val)
  | .astore_n k, x :: _ => Nat.beq x.toNat (75 + k.val)
  | .lconst k, x :: _ => Nat.beq x.toNat (9 + k.val)
  | .iconst n, x :: _ => decide ((x.toNat : Int) = n + 3 ∧ 2 ≤ x.toNat ∧ x.toNat ≤ 8)
  | .ldc v, x :: y :: _ => Nat.beq x.toNat 18 && Nat.beq y.toNat v
  | .iload v, x :: y :: _ => Nat.beq x.toNat 21 && Nat.beq y.toNat v
  | .lload v, x :: y :: _ => Nat.beq x.toNat 22 && Nat.beq y.toNat v
  | .aload v, x :: y :: _ => Nat.beq x.toNat 25 && Nat.beq y.toNat v
  | .istore v, x :: y :: _ => Nat.beq x.toNat 54 && Nat.beq y.toNat v
  | .lstore v, x :: y :: _ => Nat.beq x.toNat 55 && Nat.beq y.toNat v
  | .astore v, x :: y :: _ => Nat.beq x.toNat 58 && Nat.beq y.toNat v
  | .bipush v, x :: y :: _ => Nat.beq x.toNat 16 && decide (Reader.signed 8 y.toNat = v)
  | .ldc_w v, x :: y :: z :: _ => Nat.beq x.toNat 19 && Nat.beq (y.toNat * 256 + z.toNat) v
  | .ldc2_w v, x :: y :: z :: _ => Nat.beq x.toNat 20 && Nat.beq (y.toNat * 256 + z.toNat) v
  | .getstatic v, x :: y :: z :: _ => Nat.beq x.toNat 178 && Nat.beq (y.toNat * 256 + z.toNat) v
  | .getfield v, x :: y :: z :: _ => Nat.beq x.toNat 180 && Nat.beq (y.toNat * 256 + z.toNat) v
  | .putfield v, x :: y :: z :: _ => Nat.beq x.toNat 181 && Nat.beq (y.toNat * 256 + z.toNat) v
  | .invokevirtual v, x :: y :: z :: _ => Nat.beq x.toNat 182 && Nat.beq (y.toNat * 256 + z.toNat) v
  | .invokespecial v, x :: y :: z :: _ => Nat.beq x.toNat 183 && Nat.beq (y.toNat * 256 + z.toNat) v
  | .invokestatic v, x :: y :: z :: _ => Nat.beq x.toNat 184 && Nat.beq (y.toNat * 256 + z.toNat) v
  | .new v, x :: y :: z :: _ => Nat.beq x.toNat 187 && Nat.beq (y.toNat * 256 + z.toNat) v
  | .anewarray v, x :: y :: z :: _ => Nat.beq x.toNat 189 && Nat.beq (y.toNat * 256 + z.toNat) v
  | .sipush v, x :: y :: z :: _ => Nat.beq x.toNat 17 && decide (Reader.signed 16 (y.toNat * 256 + z.toNat) = v)
  | .ifCond .eq v, x :: y :: z :: _ => Nat.beq x.toNat 153 && decide (Reader.signed 16 (y.toNat * 256 + z.toNat) = v)
  | .ifCond .ne v, x :: y :: z :: _ => Nat.beq x.toNat 154 && decide (Reader.signed 16 (y.toNat * 256 + z.toNat) = v)
  | .ifCond .lt v, x :: y :: z :: _ => Nat.beq x.toNat 155 && decide (Reader.signed 16 (y.toNat * 256 + z.toNat) = v)
  | .ifCond .ge v, x :: y :: z :: _ => Nat.beq x.toNat 156 && decide (Reader.signed 16 (y.toNat * 256 + z.toNat) = v)
  | .ifCond .gt v, x :: y :: z :: _ => Nat.beq x.toNat 157 && decide (Reader.signed 16 (y.toNat * 256 + z.toNat) = v)
  | .ifCond .le v, x :: y :: z :: _ => Nat.beq x.toNat 158 && decide (Reader.signed 16 (y.toNat * 256 + z.toNat) = v)
  | .if_icmp .eq v, x :: y :: z :: _ => Nat.beq x.toNat 159 && decide (Reader.signed 16 (y.toNat * 256 + z.toNat) = v)
  | .if_icmp .ne v, x :: y :: z :: _ => Nat.beq x.toNat 160 && decide (Reader.signed 16 (y.toNat * 256 + z.toNat) = v)
  | .if_icmp .lt v, x :: y :: z :: _ => Nat.beq x.toNat 161 && decide (Reader.signed 16 (y.toNat * 256 + z.toNat) = v)
  | .if_icmp .ge v, x :: y :: z :: _ => Nat.beq x.toNat 162 && decide (Reader.signed 16 (y.toNat * 256 + z.toNat) = v)
  | .if_icmp .gt v, x :: y :: z :: _ => Nat.beq x.toNat 163 && decide (Reader.signed 16 (y.toNat * 256 + z.toNat) = v)
  | .if_icmp .le v, x :: y :: z :: _ => Nat.beq x.toNat 164 && decide (Reader.signed 16 (y.toNat * 256 + z.toNat) = v)
  | .if_acmp .ne v, x :: y :: z :: _ => Nat.beq x.toNat 166 && decide (Reader.signed 16 (y.toNat * 256 + z.toNat) = v)
  | .goto v, x :: y :: z :: _ => Nat.beq x.toNat 167 && decide (Reader.signed 16 (y.toNat * 256 + z.toNat) = v)
  | .iinc v w, x :: y :: z :: _ => Nat.beq x.toNat 132 && (Nat.beq y.toNat v && decide (Reader.signed 8 z.toNat = w))
  | .newarray .boolean, x :: y :: _ => Nat.beq x.toNat 188 && Nat.beq y.toNat 4
  | .newarray .int, x :: y :: _ => Nat.beq x.toNat 188 && Nat.beq y.toNat 10
  | .newarray .long, x :: y :: _ => Nat.beq x.toNat 188 && Nat.beq y.toNat 11
  | _, _ => false
set_option maxHeartbeats 8000000 in
theorem ix_de_ok {b : ByteArray} {pc : Nat} {l : List UInt8} {i : Instr} (hl : b.data.toList.drop pc = l) (h : ix_en i l = true) : decode b pc = .ok (i, ix_len i) := by
  unfold ix_en at h
  split at h
  · obtain ⟨K, hK, h1⟩ := ix_k1 pc
    exact ix_d0 hl hK (by rw [Nat.eq_of_beq_eq_true h]; exact h1)
  · obtain ⟨K, hK, h1⟩ := ix_k46 pc
    exact ix_d0 hl hK (by rw [Nat.eq_of_beq_eq_true h]; exact h1)
  · obtain ⟨K, hK, h1⟩ := ix_k47 pc
    exact ix_d0 hl hK (by rw [Nat.eq_of_beq_eq_true h]; exact h1)
  · obtain ⟨K, hK, h1⟩ := ix_k50 pc
    exact ix_d0 hl hK (by rw [Nat.eq_of_beq_eq_true h]; exact h1)
  · obtain ⟨K, hK, h1⟩ := ix_k51 pc
    exact ix_d0 hl hK (by rw [Nat.eq_of_beq_eq_true h]; exact h1)
  · obtain ⟨K, hK, h1⟩ := ix_k79 pc
    exact ix_d0 hl hK (by rw [Nat.eq_of_beq_eq_true h]; exact h1)
  · obtain ⟨K, hK, h1⟩ := ix_k80 pc
    exact ix_d0 hl hK (by rw [Nat.eq_of_beq_eq_true h]; exact h1)
  · obtain ⟨K, hK, h1⟩ := ix_k83 pc
    exact ix_d0 hl hK (by rw [Nat.eq_of_beq_eq_true h]; exact h1)
  · obtain ⟨K, hK, h1⟩ := ix_k84 pc
    exact ix_d0 hl hK (by rw [Nat.eq_of_beq_eq_true h]; exact h1)
  · obtain ⟨K, hK, h1⟩ := ix_k87 pc
    exact ix_d0 hl hK (by rw [Nat.eq_of_beq_eq_true h]; exact h1)
  · obtain ⟨K, hK, h1⟩ := ix_k88 pc
    exact ix_d0 hl hK (by rw [Nat.eq_of_beq_eq_true h]; exact h1)
  · obtain ⟨K, hK, h1⟩ := ix_k89 pc
    exact ix_d0 hl hK (by rw [Nat.eq_of_beq_eq_true h]; exact h1)
  · obtain ⟨K, hK, h1⟩ := ix_k90 pc
    exact ix_d0 hl hK (by rw [Nat.eq_of_beq_eq_true h]; exact h1)
  · obtain ⟨K, hK, h1⟩ := ix_k91 pc
    exact ix_d0 hl hK (by rw [Nat.eq_of_beq_eq_true h]; exact h1)
  · obtain ⟨K, hK, h1⟩ := ix_k92 pc
    exact ix_d0 hl hK (by rw [Nat.eq_of_beq_eq_true h]; exact h1)
  · obtain ⟨K, hK, h1⟩ := ix_k93 pc
    exact ix_d0 hl hK (by rw [Nat.eq_of_beq_eq_true h]; exact h1)
  · obtain ⟨K, hK, h1⟩ := ix_k94 pc
    exact ix_d0 hl hK (by rw [Nat.eq_of_beq_eq_true h]; exact h1)
  · obtain ⟨K, hK, h1⟩ := ix_k96 pc
    exact ix_d0 hl hK (by rw [Nat.eq_of_beq_eq_true h]; exact h1)
  · obtain ⟨K, hK, h1⟩ := ix_k97 pc
    exact ix_d0 hl hK (by rw [Nat.eq_of_beq_eq_true h]; exact h1)
  · obtain ⟨K, hK, h1⟩ := ix_k100 pc
    exact ix_d0 hl hK (by rw [Nat.eq_of_beq_eq_true h]; exact h1)
  · obtain ⟨K, hK, h1⟩ := ix_k101 pc
    exact ix_d0 hl hK (by rw [Nat.eq_of_beq_eq_true h]; exact h1)
  · obtain ⟨K, hK, h1⟩ := ix_k104 pc
    exact ix_d0 hl hK (by rw [Nat.eq_of_beq_eq_true h]; exact h1)
  · obtain ⟨K, hK, h1⟩ := ix_k105 pc
    exact ix_d0 hl hK (by rw [Nat.eq_of_beq_eq_true h]; exact h1)
  · obtain ⟨K, hK, h1⟩ := ix_k108 pc
    exact ix_d0 hl hK (by rw [Nat.eq_of_beq_eq_true h]; exact h1)
  · obtain ⟨K, hK, h1⟩ := ix_k109 pc
    exact ix_d0 hl hK (by rw [Nat.eq_of_beq_eq_true h]; exact h1)
  · obtain ⟨K, hK, h1⟩ := ix_k112 pc
    exact ix_d0 hl hK (by rw [Nat.eq_of_beq_eq_true h]; exact h1)
  · obtain ⟨K, hK, h1⟩ := ix_k113 pc
    exact ix_d0 hl hK (by rw [Nat.eq_of_beq_eq_true h]; exact h1)
  · obtain ⟨K, hK, h1⟩ := ix_k116 pc
    exact ix_d0 hl hK (by rw [Nat.eq_of_beq_eq_true h]; exact h1)
  · obtain ⟨K, hK, h1⟩ := ix_k117 pc
    exact ix_d0 hl hK (by rw [Nat.eq_of_beq_eq_true h]; exact h1)
  · obtain ⟨K, hK, h1⟩ := ix_k120 pc
    exact ix_d0 hl hK (by rw [Nat.eq_of_beq_eq_true h]; exact h1)
  · obtain ⟨K, hK, h1⟩ := ix_k121 pc
    exact ix_d0 hl hK (by rw [Nat.eq_of_beq_eq_true h]; exact h1)
  · obtain ⟨K, hK, h1⟩ := ix_k122 pc
    exact ix_d0 hl hK (by rw [Nat.eq_of_beq_eq_true h]; exact h1)
  · obtain ⟨K, hK, h1⟩ := ix_k123 pc
    exact ix_d0 hl hK (by rw [Nat.eq_of_beq_eq_true h]; exact h1)
  · obtain ⟨K, hK, h1⟩ := ix_k124 pc
    exact ix_d0 hl hK (by rw [Nat.eq_of_beq_eq_true h]; exact h1)
  · obtain ⟨K, hK, h1⟩ := ix_k125 pc
    exact ix_d0 hl hK (by rw [Nat.eq_of_beq_eq_true h]; exact h1)
  · obtain ⟨K, hK, h1⟩ := ix_k126 pc
    exact ix_d0 hl hK (by rw [Nat.eq_of_beq_eq_true h]; exact h1)
  · obtain ⟨K, hK, h1⟩ := ix_k127 pc
    exact ix_d0 hl hK (by rw [Nat.eq_of_beq_eq_true h]; exact h1)
  · obtain ⟨K, hK, h1⟩ := ix_k128 pc
    exact ix_d0 hl hK (by rw [Nat.eq_of_beq_eq_true h]; exact h1)
  · obtain ⟨K, hK, h1⟩ := ix_k129 pc
    exact ix_d0 hl hK (by rw [Nat.eq_of_beq_eq_true h]; exact h1)
  · obtain ⟨K, hK, h1⟩ := ix_k130 pc
    exact ix_d0 hl hK (by rw [Nat.eq_of_beq_eq_true h]; exact h1)
  · obtain ⟨K, hK, h1⟩ := ix_k131 pc
    exact ix_d0 hl hK (by rw [Nat.eq_of_beq_eq_true h]; exact h1)
  · obtain ⟨K, hK, h1⟩ := ix_k133 pc
    exact ix_d0 hl hK (by rw [Nat.eq_of_beq_eq_true h]; exact h1)
  · obtain ⟨K, hK, h1⟩ := ix_k136 pc
    exact ix_d0 hl hK (by rw [Nat.eq_of_beq_eq_true h]; exact h1)
  · obtain ⟨K, hK, h1⟩ := ix_k145 pc
    exact ix_d0 hl hK (by rw [Nat.eq_of_beq_eq_true h]; exact h1)
  · obtain ⟨K, hK, h1⟩ := ix_k146 pc
    exact ix_d0 hl hK (by rw [Nat.eq_of_beq_eq_true h]; exact h1)
  · obtain ⟨K, hK, h1⟩ := ix_k147 pc
    exact ix_d0 hl hK (by rw [Nat.eq_of_beq_eq_true h]; exact h1)
  · obtain ⟨K, hK, h1⟩ := ix_k148 pc
    exact ix_d0 hl hK (by rw [Nat.eq_of_beq_eq_true h]; exact h1)
  · obtain ⟨K, hK, h1⟩ := ix_k172 pc
    exact ix_d0 hl hK (by rw [Nat.eq_of_beq_eq_true h]; exact h1)
  · obtain ⟨K, hK, h1⟩ := ix_k173 pc
    exact ix_d0 hl hK (by rw [Nat.eq_of_beq_eq_true h]; exact h1)
  · obtain ⟨K, hK, h1⟩ := ix_k176 pc
    exact ix_d0 hl hK (by rw [Nat.eq_of_beq_eq_true h]; exact h1)
  · obtain ⟨K, hK, h1⟩ := ix_k177 pc
    exact ix_d0 hl hK (by rw [Nat.eq_of_beq_eq_true h]; exact h1)
  · obtain ⟨K, hK, h1⟩ := ix_k190 pc
    exact ix_d0 hl hK (by rw [Nat.eq_of_beq_eq_true h]; exact h1)
  · rename_i k x _
    have hx := Nat.eq_of_beq_eq_true h
    rcases k with ⟨k, hk⟩
    rcases (show k = 0 ∨ k = 1 ∨ k = 2 ∨ k = 3 by omega) with rfl | rfl | rfl | rfl
    · obtain ⟨K, hK, h1⟩ := ix_k26 pc
      exact ix_d0 hl hK (by rw [hx]; exact h1)
    · obtain ⟨K, hK, h1⟩ := ix_k27 pc
      exact ix_d0 hl hK (by rw [hx]; exact h1)
    · obtain ⟨K, hK, h1⟩ := ix_k28 pc
      exact ix_d0 hl hK (by rw [hx]; exact h1)
    · obtain ⟨K, hK, h1⟩ := ix_k29 pc
      exact ix_d0 hl hK (by rw [hx]; exact h1)
  · rename_i k x _
    have hx := Nat.eq_of_beq_eq_true h
    rcases k with ⟨k, hk⟩
    rcases (show k = 0 ∨ k = 1 ∨ k = 2 ∨ k = 3 by omega) with rfl | rfl | rfl | rfl
    · obtain ⟨K, hK, h1⟩ := ix_k30 pc
      exact ix_d0 hl hK (by rw [hx]; exact h1)
    · obtain ⟨K, hK, h1⟩ := ix_k31 pc
      exact ix_d0 hl hK (by rw [hx]; exact h1)
    · obtain ⟨K, hK, h1⟩ := ix_k32 pc
      exact ix_d0 hl hK (by rw [hx]; exact h1)
    · obtain ⟨K, hK, h1⟩ := ix_k33 pc
      exact ix_d0 hl hK (by rw [hx]; exact h1)
  · rename_i k x _
    have hx := Nat.eq_of_beq_eq_true h
    rcases k with ⟨k, hk⟩
    rcases (show k = 0 ∨ k = 1 ∨ k = 2 ∨ k = 3 by omega) with rfl | rfl | rfl | rfl
    · obtain ⟨K, hK, h1⟩ := ix_k42 pc
      exact ix_d0 hl hK (by rw [hx]; exact h1)
    · obtain ⟨K, hK, h1⟩ := ix_k43 pc
      exact ix_d0 hl hK (by rw [hx]; exact h1)
    · obtain ⟨K, hK, h1⟩ := ix_k44 pc
      exact ix_d0 hl hK (by rw [hx]; exact h1)
    · obtain ⟨K, hK, h1⟩ := ix_k45 pc
      exact ix_d0 hl hK (by rw [hx]; exact h1)
  · rename_i k x _
    have hx := Nat.eq_of_beq_eq_true h
    rcases k with ⟨k, hk⟩
    rcases (show k = 0 ∨ k = 1 ∨ k = 2 ∨ k = 3 by omega) with rfl | rfl | rfl | rfl
    · obtain ⟨K, hK, h1⟩ := ix_k59 pc
      exact ix_d0 hl hK (by rw [hx]; exact h1)
    · obtain ⟨K, hK, h1⟩ := ix_k60 pc
      exact ix_d0 hl hK (by rw [hx]; exact h1)
    · obtain ⟨K, hK, h1⟩ := ix_k61 pc
      exact ix_d0 hl hK (by rw [hx]; exact h1)
    · obtain ⟨K, hK, h1⟩ := ix_k62 pc
      exact ix_d0 hl hK (by rw [hx]; exact h1)
  · rename_i k x _
    have hx := Nat.eq_of_beq_eq_true h
    rcases k with ⟨k, hk⟩
    rcases (show k = 0 ∨ k = 1 ∨ k = 2 ∨ k = 3 by omega) with rfl | rfl | rfl | rfl
    · obtain ⟨K, hK, h1⟩ := ix_k63 pc
      exact ix_d0 hl hK (by rw [hx]; exact h1)
    · obtain ⟨K, hK, h1⟩ := ix_k64 pc
      exact ix_d0 hl hK (by rw [hx]; exact h1)
    · obtain ⟨K, hK, h1⟩ := ix_k65 pc
      exact ix_d0 hl hK (by rw [hx]; exact h1)
    · obtain ⟨K, hK, h1⟩ := ix_k66 pc
      exact ix_d0 hl hK (by rw [hx]; exact h1)
  · rename_i k x _
    have hx := Nat.eq_of_beq_eq_true h
    rcases k with ⟨k, hk⟩
    rcases (show k = 0 ∨ k = 1 ∨ k = 2 ∨ k = 3 by omega) with rfl | rfl | rfl | rfl
    · obtain ⟨K, hK, h1⟩ := ix_k75 pc
      exact ix_d0 hl hK (by rw [hx]; exact h1)
    · obtain ⟨K, hK, h1⟩ := ix_k76 pc
      exact ix_d0 hl hK (by rw [hx]; exact h1)
    · obtain ⟨K, hK, h1⟩ := ix_k77 pc
      exact ix_d0 hl hK (by rw [hx]; exact h1)
    · obtain ⟨K, hK, h1⟩ := ix_k78 pc
      exact ix_d0 hl hK (by rw [hx]; exact h1)
  · rename_i k x _
    have hx := Nat.eq_of_beq_eq_true h
    rcases k with ⟨k, hk⟩
    rcases (show k = 0 ∨ k = 1 by omega) with rfl | rfl
    · obtain ⟨K, hK, h1⟩ := ix_k9 pc
      exact ix_d0 hl hK (by rw [hx]; exact h1)
    · obtain ⟨K, hK, h1⟩ := ix_k10 pc
      exact ix_d0 hl hK (by rw [hx]; exact h1)
  · rename_i n x _
    obtain ⟨h2, h3, h4⟩ := of_decide_eq_true h
    rcases (show x.toNat = 2 ∨ x.toNat = 3 ∨ x.toNat = 4 ∨ x.toNat = 5 ∨ x.toNat = 6 ∨ x.toNat = 7 ∨ x.toNat = 8 by omega) with hx | hx | hx | hx | hx | hx | hx
    · have hn : n = (-1) := by omega
      subst hn
      obtain ⟨K, hK, h1⟩ := ix_k2 pc
      exact ix_d0 hl hK (by rw [hx]; exact h1)
    · have hn : n = 0 := by omega
      subst hn
      obtain ⟨K, hK, h1⟩ := ix_k3 pc
      exact ix_d0 hl hK (by rw [hx]; exact h1)
    · have hn : n = 1 := by omega
      subst hn
      obtain ⟨K, hK, h1⟩ := ix_k4 pc
      exact ix_d0 hl hK (by rw [hx]; exact h1)
    · have hn : n = 2 := by omega
      subst hn
      obtain ⟨K, hK, h1⟩ := ix_k5 pc
      exact ix_d0 hl hK (by rw [hx]; exact h1)
    · have hn : n = 3 := by omega
      subst hn
      obtain ⟨K, hK, h1⟩ := ix_k6 pc
      exact ix_d0 hl hK (by rw [hx]; exact h1)
    · have hn : n = 4 := by omega
      subst hn
      obtain ⟨K, hK, h1⟩ := ix_k7 pc
      exact ix_d0 hl hK (by rw [hx]; exact h1)
    · have hn : n = 5 := by omega
      subst hn
      obtain ⟨K, hK, h1⟩ := ix_k8 pc
      exact ix_d0 hl hK (by rw [hx]; exact h1)
  · rw [Bool.and_eq_true] at h
    obtain ⟨K, hK, h1⟩ := ix_k18 pc
    rw [← Nat.eq_of_beq_eq_true h.2]
    exact ix_d1 hl hK (by rw [Nat.eq_of_beq_eq_true h.1]; exact h1)
  · rw [Bool.and_eq_true] at h
    obtain ⟨K, hK, h1⟩ := ix_k21 pc
    rw [← Nat.eq_of_beq_eq_true h.2]
    exact ix_d1 hl hK (by rw [Nat.eq_of_beq_eq_true h.1]; exact h1)
  · rw [Bool.and_eq_true] at h
    obtain ⟨K, hK, h1⟩ := ix_k22 pc
    rw [← Nat.eq_of_beq_eq_true h.2]
    exact ix_d1 hl hK (by rw [Nat.eq_of_beq_eq_true h.1]; exact h1)
  · rw [Bool.and_eq_true] at h
    obtain ⟨K, hK, h1⟩ := ix_k25 pc
    rw [← Nat.eq_of_beq_eq_true h.2]
    exact ix_d1 hl hK (by rw [Nat.eq_of_beq_eq_true h.1]; exact h1)
  · rw [Bool.and_eq_true] at h
    obtain ⟨K, hK, h1⟩ := ix_k54 pc
    rw [← Nat.eq_of_beq_eq_true h.2]
    exact ix_d1 hl hK (by rw [Nat.eq_of_beq_eq_true h.1]; exact h1)
  · rw [Bool.and_eq_true] at h
    obtain ⟨K, hK, h1⟩ := ix_k55 pc
    rw [← Nat.eq_of_beq_eq_true h.2]
    exact ix_d1 hl hK (by rw [Nat.eq_of_beq_eq_true h.1]; exact h1)
  · rw [Bool.and_eq_true] at h
    obtain ⟨K, hK, h1⟩ := ix_k58 pc
    rw [← Nat.eq_of_beq_eq_true h.2]
    exact ix_d1 hl hK (by rw [Nat.eq_of_beq_eq_true h.1]; exact h1)
  · rw [Bool.and_eq_true] at h
    obtain ⟨K, hK, h1⟩ := ix_k16 pc
    rw [← of_decide_eq_true h.2]
    exact ix_d1s hl hK (by rw [Nat.eq_of_beq_eq_true h.1]; exact h1)
  · rw [Bool.and_eq_true] at h
    obtain ⟨K, hK, h1⟩ := ix_k19 pc
    rw [← Nat.eq_of_beq_eq_true h.2]
    exact ix_d2 hl hK (by rw [Nat.eq_of_beq_eq_true h.1]; exact h1)
  · rw [Bool.and_eq_true] at h
    obtain ⟨K, hK, h1⟩ := ix_k20 pc
    rw [← Nat.eq_of_beq_eq_true h.2]
    exact ix_d2 hl hK (by rw [Nat.eq_of_beq_eq_true h.1]; exact h1)
  · rw [Bool.and_eq_true] at h
    obtain ⟨K, hK, h1⟩ := ix_k178 pc
    rw [← Nat.eq_of_beq_eq_true h.2]
    exact ix_d2 hl hK (by rw [Nat.eq_of_beq_eq_true h.1]; exact h1)
  · rw [Bool.and_eq_true] at h
    obtain ⟨K, hK, h1⟩ := ix_k180 pc
    rw [← Nat.eq_of_beq_eq_true h.2]
    exact ix_d2 hl hK (by rw [Nat.eq_of_beq_eq_true h.1]; exact h1)
  · rw [Bool.and_eq_true] at h
    obtain ⟨K, hK, h1⟩ := ix_k181 pc
    rw [← Nat.eq_of_beq_eq_true h.2]
    exact ix_d2 hl hK (by rw [Nat.eq_of_beq_eq_true h.1]; exact h1)
  · rw [Bool.and_eq_true] at h
    obtain ⟨K, hK, h1⟩ := ix_k182 pc
    rw [← Nat.eq_of_beq_eq_true h.2]
    exact ix_d2 hl hK (by rw [Nat.eq_of_beq_eq_true h.1]; exact h1)
  · rw [Bool.and_eq_true] at h
    obtain ⟨K, hK, h1⟩ := ix_k183 pc
    rw [← Nat.eq_of_beq_eq_true h.2]
    exact ix_d2 hl hK (by rw [Nat.eq_of_beq_eq_true h.1]; exact h1)
  · rw [Bool.and_eq_true] at h
    obtain ⟨K, hK, h1⟩ := ix_k184 pc
    rw [← Nat.eq_of_beq_eq_true h.2]
    exact ix_d2 hl hK (by rw [Nat.eq_of_beq_eq_true h.1]; exact h1)
  · rw [Bool.and_eq_true] at h
    obtain ⟨K, hK, h1⟩ := ix_k187 pc
    rw [← Nat.eq_of_beq_eq_true h.2]
    exact ix_d2 hl hK (by rw [Nat.eq_of_beq_eq_true h.1]; exact h1)
  · rw [Bool.and_eq_true] at h
    obtain ⟨K, hK, h1⟩ := ix_k189 pc
    rw [← Nat.eq_of_beq_eq_true h.2]
    exact ix_d2 hl hK (by rw [Nat.eq_of_beq_eq_true h.1]; exact h1)
  · rw [Bool.and_eq_true] at h
    obtain ⟨K, hK, h1⟩ := ix_k17 pc
    rw [← of_decide_eq_true h.2]
    exact ix_d2s hl hK (by rw [Nat.eq_of_beq_eq_true h.1]; exact h1)
  · rw [Bool.and_eq_true] at h
    obtain ⟨K, hK, h1⟩ := ix_k153 pc
    rw [← of_decide_eq_true h.2]
    exact ix_d2s hl hK (by rw [Nat.eq_of_beq_eq_true h.1]; exact h1)
  · rw [Bool.and_eq_true] at h
    obtain ⟨K, hK, h1⟩ := ix_k154 pc
    rw [← of_decide_eq_true h.2]
    exact ix_d2s hl hK (by rw [Nat.eq_of_beq_eq_true h.1]; exact h1)
  · rw [Bool.and_eq_true] at h
    obtain ⟨K, hK, h1⟩ := ix_k155 pc
    rw [← of_decide_eq_true h.2]
    exact ix_d2s hl hK (by rw [Nat.eq_of_beq_eq_true h.1]; exact h1)
  · rw [Bool.and_eq_true] at h
    obtain ⟨K, hK, h1⟩ := ix_k156 pc
    rw [← of_decide_eq_true h.2]
    exact ix_d2s hl hK (by rw [Nat.eq_of_beq_eq_true h.1]; exact h1)
  · rw [Bool.and_eq_true] at h
    obtain ⟨K, hK, h1⟩ := ix_k157 pc
    rw [← of_decide_eq_true h.2]
    exact ix_d2s hl hK (by rw [Nat.eq_of_beq_eq_true h.1]; exact h1)
  · rw [Bool.and_eq_true] at h
    obtain ⟨K, hK, h1⟩ := ix_k158 pc
    rw [← of_decide_eq_true h.2]
    exact ix_d2s hl hK (by rw [Nat.eq_of_beq_eq_true h.1]; exact h1)
  · rw [Bool.and_eq_true] at h
    obtain ⟨K, hK, h1⟩ := ix_k159 pc
    rw [← of_decide_eq_true h.2]
    exact ix_d2s hl hK (by rw [Nat.eq_of_beq_eq_true h.1]; exact h1)
  · rw [Bool.and_eq_true] at h
    obtain ⟨K, hK, h1⟩ := ix_k160 pc
    rw [← of_decide_eq_true h.2]
    exact ix_d2s hl hK (by rw [Nat.eq_of_beq_eq_true h.1]; exact h1)
  · rw [Bool.and_eq_true] at h
    obtain ⟨K, hK, h1⟩ := ix_k161 pc
    rw [← of_decide_eq_true h.2]
    exact ix_d2s hl hK (by rw [Nat.eq_of_beq_eq_true h.1]; exact h1)
  · rw [Bool.and_eq_true] at h
    obtain ⟨K, hK, h1⟩ := ix_k162 pc
    rw [← of_decide_eq_true h.2]
    exact ix_d2s hl hK (by rw [Nat.eq_of_beq_eq_true h.1]; exact h1)
  · rw [Bool.and_eq_true] at h
    obtain ⟨K, hK, h1⟩ := ix_k163 pc
    rw [← of_decide_eq_true h.2]
    exact ix_d2s hl hK (by rw [Nat.eq_of_beq_eq_true h.1]; exact h1)
  · rw [Bool.and_eq_true] at h
    obtain ⟨K, hK, h1⟩ := ix_k164 pc
    rw [← of_decide_eq_true h.2]
    exact ix_d2s hl hK (by rw [Nat.eq_of_beq_eq_true h.1]; exact h1)
  · rw [Bool.and_eq_true] at h
    obtain ⟨K, hK, h1⟩ := ix_k166 pc
    rw [← of_decide_eq_true h.2]
    exact ix_d2s hl hK (by rw [Nat.eq_of_beq_eq_true h.1]; exact h1)
  · rw [Bool.and_eq_true] at h
    obtain ⟨K, hK, h1⟩ := ix_k167 pc
    rw [← of_decide_eq_true h.2]
    exact ix_d2s hl hK (by rw [Nat.eq_of_beq_eq_true h.1]; exact h1)
  · simp only [Bool.and_eq_true] at h
    obtain ⟨K, hK, h1⟩ := ix_k132 pc
    rw [← Nat.eq_of_beq_eq_true h.2.1, ← of_decide_eq_true h.2.2]
    refine ix_dfin ?_
    rw [hK, ix_bnd (ix_u1 hl), Nat.eq_of_beq_eq_true h.1, h1, ix_bnd (ix_u1 (ix_dl (n := 1) (l1 := [_]) hl rfl)), ix_bnd (ix_s1 (p := pc + 1 + 1) (ix_dl (pc := pc) (n := 2) (l1 := [_, _]) hl rfl))]
    rfl
  · rw [Bool.and_eq_true] at h
    obtain ⟨K, J, hK, h1, j4, j10, j11⟩ := ix_k188 pc
    refine ix_dfin ?_
    rw [hK, ix_bnd (ix_u1 hl), Nat.eq_of_beq_eq_true h.1, h1, ix_bnd (ix_u1 (ix_dl (n := 1) (l1 := [_]) hl rfl)), Nat.eq_of_beq_eq_true h.2, j4]
    rfl
  · rw [Bool.and_eq_true] at h
    obtain ⟨K, J, hK, h1, j4, j10, j11⟩ := ix_k188 pc
    refine ix_dfin ?_
    rw [hK, ix_bnd (ix_u1 hl), Nat.eq_of_beq_eq_true h.1, h1, ix_bnd (ix_u1 (ix_dl (n := 1) (l1 := [_]) hl rfl)), Nat.eq_of_beq_eq_true h.2, j10]
    rfl
  · rw [Bool.and_eq_true] at h
    obtain ⟨K, J, hK, h1, j4, j10, j11⟩ := ix_k188 pc
    refine ix_dfin ?_
    rw [hK, ix_bnd (ix_u1 hl), Nat.eq_of_beq_eq_true h.1, h1, ix_bnd (ix_u1 (ix_dl (n := 1) (l1 := [_]) hl rfl)), Nat.eq_of_beq_eq_true h.2, j11]
    rfl
  · cases h
/-- one pass over the bytes: where the table has an instruction (no switch), the bytes say it -/
def ix_scan (cd : Nat → Option Instr) : Nat → List UInt8 → Bool
  | _, [] => true
  | pc, x :: r => (match cd pc with
    | none => true
    | some i => bif Nat.beq (ix_len i) 0 then true else ix_en i (x :: r)) && ix_scan cd (pc + 1) r
theorem ix_scan_ok {b : ByteArray} {cd : Nat → Option Instr} : ∀ {l : List UInt8} {pc : Nat}, b.data.toList.drop pc = l → ix_scan cd pc l = true → ∀ (q : Nat) (i : Instr), pc ≤ q → q < b.data.toList.length → cd q = some i → ¬ ix_len i = 0 → decode b q = .ok (i, ix_len i)
  | [], pc, hl, _, q, i, h1, h2, _, _ => by
    have : b.data.toList.length ≤ pc := List.drop_eq_nil_iff.mp hl
    omega
  | x :: r, pc, hl, h, q, i, h1, h2, hc, hn => by
    unfold ix_scan at h
    rw [Bool.and_eq_true] at h
    by_cases hq : q = pc
    · subst hq
      have h3 := h.1
      rw [hc] at h3
      simp only at h3
      have hb : Nat.beq (ix_len i) 0 = false := by
        cases hb : Nat.beq (ix_len i) 0 with
        | false => rfl
        | true => exact absurd (Nat.eq_of_beq_eq_true hb) hn
      rw [hb] at h3
      exact ix_de_ok hl h3
    · exact ix_scan_ok (l := r) (pc := pc + 1) (by rw [← List.drop_drop, hl]; rfl) h.2 q i (by omega) h2 hc hn
theorem ix_bno {α : Type} {n pc : Nat} (x : Option α) (h : ¬ pc < n) : (bif Nat.blt pc n then x else none) = none := by
  cases hb : Nat.blt pc n with
  | false => rfl
  | true => exact absurd (Nat.blt_eq.mp hb) h
/-- the switches, each by itself -/
def ix_sw (b : ByteArray) (cd : Nat → Option Instr) (n : Nat) (pcs : List Nat) : Bool := (List.range n).all (fun pc => match cd pc with
  | none => true
  | some i => bif Nat.beq (ix_len i) 0 then pcs.contains pc else true) && pcs.all (fun pc => match cd pc with
  | none => true
  | some i => match decode b pc with
    | .ok (j, _) => decide (j = i)
    | .error _ => false)
def ix_cdok (b : ByteArray) (cd : Nat → Option Instr) (n : Nat) (pcs : List Nat) : Bool := ix_scan cd 0 b.data.toList && Nat.beq b.data.toList.length n && ix_sw b cd n pcs
theorem ix_cd_ok {b : ByteArray} {cd : Nat → Option Instr} {n : Nat} {pcs : List Nat} (h : ix_cdok b cd n pcs = true) (hn : ∀ pc, ¬ pc < n → cd pc = none) (pc : Nat) (i : Instr) (hi : cd pc = some i) : ∃ len : Nat, decode b pc = .ok (i, len) ∧ (ix_len i = 0 ∨ ix_len i = len) := by
  have hp : pc < n := by
    rcases Nat.lt_or_ge pc n with h | h
    · exact h
    · rw [hn pc (Nat.not_lt.mpr h)] at hi; cases hi
  unfold ix_cdok at h
  simp only [Bool.and_eq_true] at h
  obtain ⟨⟨h1, h2⟩, h3⟩ := h
  have h2 := Nat.eq_of_beq_eq_true h2
  by_cases hz : ix_len i = 0
  · unfold ix_sw at h3
    simp only [Bool.and_eq_true] at h3
    have h4 := List.all_eq_true.mp h3.1 pc (List.mem_range.mpr hp)
    rw [hi] at h4
    simp only [hz] at h4
    have h5 := List.all_eq_true.mp h3.2 pc (by simpa using h4)
    rw [hi] at h5
    simp only at h5
    split at h5
    · rename_i j len hd
      exact ⟨len, by rw [hd, of_decide_eq_true h5], Or.inl hz⟩
    · cases h5
  · exact ⟨ix_len i, ix_scan_ok (pc := 0) rfl h1 pc i (Nat.zero_le _) (by rw [h2]; exact hp) hi hz, Or.inr rfl⟩
