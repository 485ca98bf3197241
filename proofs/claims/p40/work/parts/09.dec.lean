section
/-! ===== the instructions out of the bytes in one pass ===== -/
section IXD
variable {b : ByteArray} {pc : Nat} {x y z : UInt8} {r : List UInt8}
theorem ix_u1 {p : Nat} (hl : b.data.toList.drop p = x :: r) : Reader.runAt (Reader.u1 : Decoder Nat) b p = .ok (x.toNat, p + 1) := by
  have hp : p < b.data.toList.length := by
    rcases Nat.lt_or_ge p b.data.toList.length with h | h
    · exact h
    · rw [List.drop_eq_nil_of_le h] at hl; cases hl
  have hs : p < b.size := hp
  have hx : b[p] = x := by
    have h1 : (b.data.toList.drop p)[0]? = some x := by rw [hl]; rfl
    rw [List.getElem?_drop, Nat.add_zero, List.getElem?_eq_getElem hp] at h1
    exact Option.some.inj h1
  rw [← hx]
  first
    | (simp [Reader.u1, Reader.runAt, hs]; done)
    | (show ((if h : p < b.size then _ else _ : Decoder Nat) b p) = _; rw [dif_pos hs]; rfl)
theorem ix_bnd {α β : Type} {q : Decoder α} {f : α → Decoder β} {p p' : Nat} {a : α} (h : Reader.runAt q b p = .ok (a, p')) : Reader.runAt (q >>= f) b p = Reader.runAt (f a) b p' := by
  have h2 : (ReaderT.run q b).run p = Except.ok (a, p') := h
  show Except.bind ((ReaderT.run q b).run p) _ = _
  rw [h2]
  rfl
theorem ix_dl {l1 l2 : List UInt8} {n : Nat} (h : b.data.toList.drop pc = l1 ++ l2) (hn : l1.length = n) : b.data.toList.drop (pc + n) = l2 := by
  rw [← List.drop_drop, h, ← hn, List.drop_left]
theorem ix_s1 {p : Nat} (hl : b.data.toList.drop p = x :: r) : Reader.runAt (Reader.s1 : Decoder Int) b p = .ok (Reader.signed 8 x.toNat, p + 1) := by
  have h := ix_u1 hl
  have h2 : (ReaderT.run (Reader.u1 : Decoder Nat) b).run p = Except.ok (x.toNat, p + 1) := h
  show Except.bind ((ReaderT.run (Reader.u1 : Decoder Nat) b).run p) _ = _
  rw [h2]
  rfl
theorem ix_u2 {p : Nat} (hl : b.data.toList.drop p = x :: y :: r) : Reader.runAt (Reader.u2 : Decoder Nat) b p = .ok (x.toNat * 256 + y.toNat, p + 2) := by
  have h1 := ix_u1 hl
  have h2 := ix_u1 (p := p + 1) (x := y) (r := r) (ix_dl (n := 1) (l1 := [x]) hl rfl)
  have e : (Reader.u2 : Decoder Nat) = Reader.u1 >>= fun hi => Reader.u1 >>= fun lo => Pure.pure (hi * 256 + lo) := rfl
  rw [e, ix_bnd h1, ix_bnd h2]
  rfl
theorem ix_s2 {p : Nat} (hl : b.data.toList.drop p = x :: y :: r) : Reader.runAt (Reader.s2 : Decoder Int) b p = .ok (Reader.signed 16 (x.toNat * 256 + y.toNat), p + 2) := by
  have h := ix_u2 hl
  have h2 : (ReaderT.run (Reader.u2 : Decoder Nat) b).run p = Except.ok (x.toNat * 256 + y.toNat, p + 2) := h
  show Except.bind ((ReaderT.run (Reader.u2 : Decoder Nat) b).run p) _ = _
  rw [h2]
  rfl
theorem ix_dfin {i : Instr} {n : Nat} (h : Reader.runAt (Decoder.instr pc) b pc = .ok (i, pc + n)) : decode b pc = .ok (i, n) := by
  show Except.bind (Reader.runAt (Decoder.instr pc) b pc) _ = _
  rw [h]
  show Except.ok (i, pc + n - pc) = Except.ok (i, n)
  rw [Nat.add_sub_cancel_left]
theorem ix_d0 {i : Instr} {K : Nat → Decoder Instr} (hl : b.data.toList.drop pc = x :: r) (hK : Decoder.instr pc = Reader.u1 >>= K) (h1 : K x.toNat = Pure.pure i) : decode b pc = .ok (i, 1) := by
  refine ix_dfin ?_
  rw [hK, ix_bnd (ix_u1 hl), h1]
  rfl
theorem ix_d1 {f : Nat → Instr} {K : Nat → Decoder Instr} (hl : b.data.toList.drop pc = x :: y :: r) (hK : Decoder.instr pc = Reader.u1 >>= K) (h1 : K x.toNat = Reader.u1 >>= fun v => Pure.pure (f v)) : decode b pc = .ok (f y.toNat, 2) := by
  refine ix_dfin ?_
  rw [hK, ix_bnd (ix_u1 hl), h1, ix_bnd (ix_u1 (ix_dl (n := 1) (l1 := [x]) hl rfl))]
  rfl
theorem ix_d1s {f : Int → Instr} {K : Nat → Decoder Instr} (hl : b.data.toList.drop pc = x :: y :: r) (hK : Decoder.instr pc = Reader.u1 >>= K) (h1 : K x.toNat = Reader.s1 >>= fun v => Pure.pure (f v)) : decode b pc = .ok (f (Reader.signed 8 y.toNat), 2) := by
  refine ix_dfin ?_
  rw [hK, ix_bnd (ix_u1 hl), h1, ix_bnd (ix_s1 (ix_dl (n := 1) (l1 := [x]) hl rfl))]
  rfl
theorem ix_d2 {f : Nat → Instr} {K : Nat → Decoder Instr} (hl : b.data.toList.drop pc = x :: y :: z :: r) (hK : Decoder.instr pc = Reader.u1 >>= K) (h1 : K x.toNat = Reader.u2 >>= fun v => Pure.pure (f v)) : decode b pc = .ok (f (y.toNat * 256 + z.toNat), 3) := by
  refine ix_dfin ?_
  rw [hK, ix_bnd (ix_u1 hl), h1, ix_bnd (ix_u2 (ix_dl (n := 1) (l1 := [x]) hl rfl))]
  rfl
theorem ix_d2s {f : Int → Instr} {K : Nat → Decoder Instr} (hl : b.data.toList.drop pc = x :: y :: z :: r) (hK : Decoder.instr pc = Reader.u1 >>= K) (h1 : K x.toNat = Reader.s2 >>= fun v => Pure.pure (f v)) : decode b pc = .ok (f (Reader.signed 16 (y.toNat * 256 + z.toNat)), 3) := by
  refine ix_dfin ?_
  rw [hK, ix_bnd (ix_u1 hl), h1, ix_bnd (ix_s2 (ix_dl (n := 1) (l1 := [x]) hl rfl))]
  rfl
end IXD
noncomputable def ixKd (pc : Nat) : Subtype (fun K : Nat → Decoder Instr => Decoder.instr pc = Reader.u1 >>= K) := ⟨_, rfl⟩
theorem ix_k1 (pc : Nat) : ∃ K : Nat → Decoder Instr, Decoder.instr pc = Reader.u1 >>= K ∧ K 1 = Pure.pure .aconst_null := ⟨(ixKd pc).1, (ixKd pc).2, rfl⟩
theorem ix_k2 (pc : Nat) : ∃ K : Nat → Decoder Instr, Decoder.instr pc = Reader.u1 >>= K ∧ K 2 = Pure.pure (.iconst (-1)) := ⟨(ixKd pc).1, (ixKd pc).2, rfl⟩
theorem ix_k3 (pc : Nat) : ∃ K : Nat → Decoder Instr, Decoder.instr pc = Reader.u1 >>= K ∧ K 3 = Pure.pure (.iconst 0) := ⟨(ixKd pc).1, (ixKd pc).2, rfl⟩
theorem ix_k4 (pc : Nat) : ∃ K : Nat → Decoder Instr, Decoder.instr pc = Reader.u1 >>= K ∧ K 4 = Pure.pure (.iconst 1) := ⟨(ixKd pc).1, (ixKd pc).2, rfl⟩
theorem ix_k5 (pc : Nat) : ∃ K : Nat → Decoder Instr, Decoder.instr pc = Reader.u1 >>= K ∧ K 5 = Pure.pure (.iconst 2) := ⟨(ixKd pc).1, (ixKd pc).2, rfl⟩
theorem ix_k6 (pc : Nat) : ∃ K : Nat → Decoder Instr, Decoder.instr pc = Reader.u1 >>= K ∧ K 6 = Pure.pure (.iconst 3) := ⟨(ixKd pc).1, (ixKd pc).2, rfl⟩
theorem ix_k7 (pc : Nat) : ∃ K : Nat → Decoder Instr, Decoder.instr pc = Reader.u1 >>= K ∧ K 7 = Pure.pure (.iconst 4) := ⟨(ixKd pc).1, (ixKd pc).2, rfl⟩
theorem ix_k8 (pc : Nat) : ∃ K : Nat → Decoder Instr, Decoder.instr pc = Reader.u1 >>= K ∧ K 8 = Pure.pure (.iconst 5) := ⟨(ixKd pc).1, (ixKd pc).2, rfl⟩
theorem ix_k9 (pc : Nat) : ∃ K : Nat → Decoder Instr, Decoder.instr pc = Reader.u1 >>= K ∧ K 9 = Pure.pure (.lconst 0) := ⟨(ixKd pc).1, (ixKd pc).2, rfl⟩
theorem ix_k10 (pc : Nat) : ∃ K : Nat → Decoder Instr, Decoder.instr pc = Reader.u1 >>= K ∧ K 10 = Pure.pure (.lconst 1) := ⟨(ixKd pc).1, (ixKd pc).2, rfl⟩
theorem ix_k16 (pc : Nat) : ∃ K : Nat → Decoder Instr, Decoder.instr pc = Reader.u1 >>= K ∧ K 16 = Reader.s1 >>= fun v => Pure.pure (.bipush v) := ⟨(ixKd pc).1, (ixKd pc).2, rfl⟩
theorem ix_k17 (pc : Nat) : ∃ K : Nat → Decoder Instr, Decoder.instr pc = Reader.u1 >>= K ∧ K 17 = Reader.s2 >>= fun v => Pure.pure (.sipush v) := ⟨(ixKd pc).1, (ixKd pc).2, rfl⟩
theorem ix_k18 (pc : Nat) : ∃ K : Nat → Decoder Instr, Decoder.instr pc = Reader.u1 >>= K ∧ K 18 = Reader.u1 >>= fun v => Pure.pure (.ldc v) := ⟨(ixKd pc).1, (ixKd pc).2, rfl⟩
theorem ix_k19 (pc : Nat) : ∃ K : Nat → Decoder Instr, Decoder.instr pc = Reader.u1 >>= K ∧ K 19 = Reader.u2 >>= fun v => Pure.pure (.ldc_w v) := ⟨(ixKd pc).1, (ixKd pc).2, rfl⟩
theorem ix_k20 (pc : Nat) : ∃ K : Nat → Decoder Instr, Decoder.instr pc = Reader.u1 >>= K ∧ K 20 = Reader.u2 >>= fun v => Pure.pure (.ldc2_w v) := ⟨(ixKd pc).1, (ixKd pc).2, rfl⟩
theorem ix_k21 (pc : Nat) : ∃ K : Nat → Decoder Instr, Decoder.instr pc = Reader.u1 >>= K ∧ K 21 = Reader.u1 >>= fun v => Pure.pure (.iload v) := ⟨(ixKd pc).1, (ixKd pc).2, rfl⟩
theorem ix_k22 (pc : Nat) : ∃ K : Nat → Decoder Instr, Decoder.instr pc = Reader.u1 >>= K ∧ K 22 = Reader.u1 >>= fun v => Pure.pure (.lload v) := ⟨(ixKd pc).1, (ixKd pc).2, rfl⟩
theorem ix_k25 (pc : Nat) : ∃ K : Nat → Decoder Instr, Decoder.instr pc = Reader.u1 >>= K ∧ K 25 = Reader.u1 >>= fun v => Pure.pure (.aload v) := ⟨(ixKd pc).1, (ixKd pc).2, rfl⟩
theorem ix_k26 (pc : Nat) : ∃ K : Nat → Decoder Instr, Decoder.instr pc = Reader.u1 >>= K ∧ K 26 = Pure.pure (.iload_n 0) := ⟨(ixKd pc).1, (ixKd pc).2, rfl⟩
theorem ix_k27 (pc : Nat) : ∃ K : Nat → Decoder Instr, Decoder.instr pc = Reader.u1 >>= K ∧ K 27 = Pure.pure (.iload_n 1) := ⟨(ixKd pc).1, (ixKd pc).2, rfl⟩
theorem ix_k28 (pc : Nat) : ∃ K : Nat → Decoder Instr, Decoder.instr pc = Reader.u1 >>= K ∧ K 28 = Pure.pure (.iload_n 2) := ⟨(ixKd pc).1, (ixKd pc).2, rfl⟩
theorem ix_k29 (pc : Nat) : ∃ K : Nat → Decoder Instr, Decoder.instr pc = Reader.u1 >>= K ∧ K 29 = Pure.pure (.iload_n 3) := ⟨(ixKd pc).1, (ixKd pc).2, rfl⟩
theorem ix_k30 (pc : Nat) : ∃ K : Nat → Decoder Instr, Decoder.instr pc = Reader.u1 >>= K ∧ K 30 = Pure.pure (.lload_n 0) := ⟨(ixKd pc).1, (ixKd pc).2, rfl⟩
theorem ix_k31 (pc : Nat) : ∃ K : Nat → Decoder Instr, Decoder.instr pc = Reader.u1 >>= K ∧ K 31 = Pure.pure (.lload_n 1) := ⟨(ixKd pc).1, (ixKd pc).2, rfl⟩
theorem ix_k32 (pc : Nat) : ∃ K : Nat → Decoder Instr, Decoder.instr pc = Reader.u1 >>= K ∧ K 32 = Pure.pure (.lload_n 2) := ⟨(ixKd pc).1, (ixKd pc).2, rfl⟩
theorem ix_k33 (pc : Nat) : ∃ K : Nat → Decoder Instr, Decoder.instr pc = Reader.u1 >>= K ∧ K 33 = Pure.pure (.lload_n 3) := ⟨(ixKd pc).1, (ixKd pc).2, rfl⟩
theorem ix_k42 (pc : Nat) : ∃ K : Nat → Decoder Instr, Decoder.instr pc = Reader.u1 >>= K ∧ K 42 = Pure.pure (.aload_n 0) := ⟨(ixKd pc).1, (ixKd pc).2, rfl⟩
theorem ix_k43 (pc : Nat) : ∃ K : Nat → Decoder Instr, Decoder.instr pc = Reader.u1 >>= K ∧ K 43 = Pure.pure (.aload_n 1) := ⟨(ixKd pc).1, (ixKd pc).2, rfl⟩
theorem ix_k44 (pc : Nat) : ∃ K : Nat → Decoder Instr, Decoder.instr pc = Reader.u1 >>= K ∧ K 44 = Pure.pure (.aload_n 2) := ⟨(ixKd pc).1, (ixKd pc).2, rfl⟩
theorem ix_k45 (pc : Nat) : ∃ K : Nat → Decoder Instr, Decoder.instr pc = Reader.u1 >>= K ∧ K 45 = Pure.pure (.aload_n 3) := ⟨(ixKd pc).1, (ixKd pc).2, rfl⟩
theorem ix_k46 (pc : Nat) : ∃ K : Nat → Decoder Instr, Decoder.instr pc = Reader.u1 >>= K ∧ K 46 = Pure.pure .iaload := ⟨(ixKd pc).1, (ixKd pc).2, rfl⟩
theorem ix_k47 (pc : Nat) : ∃ K : Nat → Decoder Instr, Decoder.instr pc = Reader.u1 >>= K ∧ K 47 = Pure.pure .laload := ⟨(ixKd pc).1, (ixKd pc).2, rfl⟩
theorem ix_k50 (pc : Nat) : ∃ K : Nat → Decoder Instr, Decoder.instr pc = Reader.u1 >>= K ∧ K 50 = Pure.pure .aaload := ⟨(ixKd pc).1, (ixKd pc).2, rfl⟩
theorem ix_k51 (pc : Nat) : ∃ K : Nat → Decoder Instr, Decoder.instr pc = Reader.u1 >>= K ∧ K 51 = Pure.pure .baload := ⟨(ixKd pc).1, (ixKd pc).2, rfl⟩
theorem ix_k54 (pc : Nat) : ∃ K : Nat → Decoder Instr, Decoder.instr pc = Reader.u1 >>= K ∧ K 54 = Reader.u1 >>= fun v => Pure.pure (.istore v) := ⟨(ixKd pc).1, (ixKd pc).2, rfl⟩
theorem ix_k55 (pc : Nat) : ∃ K : Nat → Decoder Instr, Decoder.instr pc = Reader.u1 >>= K ∧ K 55 = Reader.u1 >>= fun v => Pure.pure (.lstore v) := ⟨(ixKd pc).1, (ixKd pc).2, rfl⟩
theorem ix_k58 (pc : Nat) : ∃ K : Nat → Decoder Instr, Decoder.instr pc = Reader.u1 >>= K ∧ K 58 = Reader.u1 >>= fun v => Pure.pure (.astore v) := ⟨(ixKd pc).1, (ixKd pc).2, rfl⟩
theorem ix_k59 (pc : Nat) : ∃ K : Nat → Decoder Instr, Decoder.instr pc = Reader.u1 >>= K ∧ K 59 = Pure.pure (.istore_n 0) := ⟨(ixKd pc).1, (ixKd pc).2, rfl⟩
theorem ix_k60 (pc : Nat) : ∃ K : Nat → Decoder Instr, Decoder.instr pc = Reader.u1 >>= K ∧ K 60 = Pure.pure (.istore_n 1) := ⟨(ixKd pc).1, (ixKd pc).2, rfl⟩
theorem ix_k61 (pc : Nat) : ∃ K : Nat → Decoder Instr, Decoder.instr pc = Reader.u1 >>= K ∧ K 61 = Pure.pure (.istore_n 2) := ⟨(ixKd pc).1, (ixKd pc).2, rfl⟩
theorem ix_k62 (pc : Nat) : ∃ K : Nat → Decoder Instr, Decoder.instr pc = Reader.u1 >>= K ∧ K 62 = Pure.pure (.istore_n 3) := ⟨(ixKd pc).1, (ixKd pc).2, rfl⟩
theorem ix_k63 (pc : Nat) : ∃ K : Nat → Decoder Instr, Decoder.instr pc = Reader.u1 >>= K ∧ K 63 = Pure.pure (.lstore_n 0) := ⟨(ixKd pc).1, (ixKd pc).2, rfl⟩
theorem ix_k64 (pc : Nat) : ∃ K : Nat → Decoder Instr, Decoder.instr pc = Reader.u1 >>= K ∧ K 64 = Pure.pure (.lstore_n 1) := ⟨(ixKd pc).1, (ixKd pc).2, rfl⟩
theorem ix_k65 (pc : Nat) : ∃ K : Nat → Decoder Instr, Decoder.instr pc = Reader.u1 >>= K ∧ K 65 = Pure.pure (.lstore_n 2) := ⟨(ixKd pc).1, (ixKd pc).2, rfl⟩
theorem ix_k66 (pc : Nat) : ∃ K : Nat → Decoder Instr, Decoder.instr pc = Reader.u1 >>= K ∧ K 66 = Pure.pure (.lstore_n 3) := ⟨(ixKd pc).1, (ixKd pc).2, rfl⟩
theorem ix_k75 (pc : Nat) : ∃ K : Nat → Decoder Instr, Decoder.instr pc = Reader.u1 >>= K ∧ K 75 = Pure.pure (.astore_n 0) := ⟨(ixKd pc).1, (ixKd pc).2, rfl⟩
theorem ix_k76 (pc : Nat) : ∃ K : Nat → Decoder Instr, Decoder.instr pc = Reader.u1 >>= K ∧ K 76 = Pure.pure (.astore_n 1) := ⟨(ixKd pc).1, (ixKd pc).2, rfl⟩
theorem ix_k77 (pc : Nat) : ∃ K : Nat → Decoder Instr, Decoder.instr pc = Reader.u1 >>= K ∧ K 77 = Pure.pure (.astore_n 2) := ⟨(ixKd pc).1, (ixKd pc).2, rfl⟩
theorem ix_k78 (pc : Nat) : ∃ K : Nat → Decoder Instr, Decoder.instr pc = Reader.u1 >>= K ∧ K 78 = Pure.pure (.astore_n 3) := ⟨(ixKd pc).1, (ixKd pc).2, rfl⟩
theorem ix_k79 (pc : Nat) : ∃ K : Nat → Decoder Instr, Decoder.instr pc = Reader.u1 >>= K ∧ K 79 = Pure.pure .iastore := ⟨(ixKd pc).1, (ixKd pc).2, rfl⟩
theorem ix_k80 (pc : Nat) : ∃ K : Nat → Decoder Instr, Decoder.instr pc = Reader.u1 >>= K ∧ K 80 = Pure.pure .lastore := ⟨(ixKd pc).1, (ixKd pc).2, rfl⟩
theorem ix_k83 (pc : Nat) : ∃ K : Nat → Decoder Instr, Decoder.instr pc = Reader.u1 >>= K ∧ K 83 = Pure.pure .aastore := ⟨(ixKd pc).1, (ixKd pc).2, rfl⟩
theorem ix_k84 (pc : Nat) : ∃ K : Nat → Decoder Instr, Decoder.instr pc = Reader.u1 >>= K ∧ K 84 = Pure.pure .bastore := ⟨(ixKd pc).1, (ixKd pc).2, rfl⟩
theorem ix_k87 (pc : Nat) : ∃ K : Nat → Decoder Instr, Decoder.instr pc = Reader.u1 >>= K ∧ K 87 = Pure.pure .pop := ⟨(ixKd pc).1, (ixKd pc).2, rfl⟩
theorem ix_k88 (pc : Nat) : ∃ K : Nat → Decoder Instr, Decoder.instr pc = Reader.u1 >>= K ∧ K 88 = Pure.pure .pop2 := ⟨(ixKd pc).1, (ixKd pc).2, rfl⟩
theorem ix_k89 (pc : Nat) : ∃ K : Nat → Decoder Instr, Decoder.instr pc = Reader.u1 >>= K ∧ K 89 = Pure.pure .dup := ⟨(ixKd pc).1, (ixKd pc).2, rfl⟩
theorem ix_k90 (pc : Nat) : ∃ K : Nat → Decoder Instr, Decoder.instr pc = Reader.u1 >>= K ∧ K 90 = Pure.pure .dup_x1 := ⟨(ixKd pc).1, (ixKd pc).2, rfl⟩
theorem ix_k91 (pc : Nat) : ∃ K : Nat → Decoder Instr, Decoder.instr pc = Reader.u1 >>= K ∧ K 91 = Pure.pure .dup_x2 := ⟨(ixKd pc).1, (ixKd pc).2, rfl⟩
theorem ix_k92 (pc : Nat) : ∃ K : Nat → Decoder Instr, Decoder.instr pc = Reader.u1 >>= K ∧ K 92 = Pure.pure .dup2 := ⟨(ixKd pc).1, (ixKd pc).2, rfl⟩
theorem ix_k93 (pc : Nat) : ∃ K : Nat → Decoder Instr, Decoder.instr pc = Reader.u1 >>= K ∧ K 93 = Pure.pure .dup2_x1 := ⟨(ixKd pc).1, (ixKd pc).2, rfl⟩
theorem ix_k94 (pc : Nat) : ∃ K : Nat → Decoder Instr, Decoder.instr pc = Reader.u1 >>= K ∧ K 94 = Pure.pure .dup2_x2 := ⟨(ixKd pc).1, (ixKd pc).2, rfl⟩
theorem ix_k96 (pc : Nat) : ∃ K : Nat → Decoder Instr, Decoder.instr pc = Reader.u1 >>= K ∧ K 96 = Pure.pure .iadd := ⟨(ixKd pc).1, (ixKd pc).2, rfl⟩
theorem ix_k97 (pc : Nat) : ∃ K : Nat → Decoder Instr, Decoder.instr pc = Reader.u1 >>= K ∧ K 97 = Pure.pure .ladd := ⟨(ixKd pc).1, (ixKd pc).2, rfl⟩
theorem ix_k100 (pc : Nat) : ∃ K : Nat → Decoder Instr, Decoder.instr pc = Reader.u1 >>= K ∧ K 100 = Pure.pure .isub := ⟨(ixKd pc).1, (ixKd pc).2, rfl⟩
theorem ix_k101 (pc : Nat) : ∃ K : Nat → Decoder Instr, Decoder.instr pc = Reader.u1 >>= K ∧ K 101 = Pure.pure .lsub := ⟨(ixKd pc).1, (ixKd pc).2, rfl⟩
theorem ix_k104 (pc : Nat) : ∃ K : Nat → Decoder Instr, Decoder.instr pc = Reader.u1 >>= K ∧ K 104 = Pure.pure .imul := ⟨(ixKd pc).1, (ixKd pc).2, rfl⟩
theorem ix_k105 (pc : Nat) : ∃ K : Nat → Decoder Instr, Decoder.instr pc = Reader.u1 >>= K ∧ K 105 = Pure.pure .lmul := ⟨(ixKd pc).1, (ixKd pc).2, rfl⟩
theorem ix_k108 (pc : Nat) : ∃ K : Nat → Decoder Instr, Decoder.instr pc = Reader.u1 >>= K ∧ K 108 = Pure.pure .idiv := ⟨(ixKd pc).1, (ixKd pc).2, rfl⟩
theorem ix_k109 (pc : Nat) : ∃ K : Nat → Decoder Instr, Decoder.instr pc = Reader.u1 >>= K ∧ K 109 = Pure.pure .ldiv := ⟨(ixKd pc).1, (ixKd pc).2, rfl⟩
theorem ix_k112 (pc : Nat) : ∃ K : Nat → Decoder Instr, Decoder.instr pc = Reader.u1 >>= K ∧ K 112 = Pure.pure .irem := ⟨(ixKd pc).1, (ixKd pc).2, rfl⟩
theorem ix_k113 (pc : Nat) : ∃ K : Nat → Decoder Instr, Decoder.instr pc = Reader.u1 >>= K ∧ K 113 = Pure.pure .lrem := ⟨(ixKd pc).1, (ixKd pc).2, rfl⟩
theorem ix_k116 (pc : Nat) : ∃ K : Nat → Decoder Instr, Decoder.instr pc = Reader.u1 >>= K ∧ K 116 = Pure.pure .ineg := ⟨(ixKd pc).1, (ixKd pc).2, rfl⟩
theorem ix_k117 (pc : Nat) : ∃ K : Nat → Decoder Instr, Decoder.instr pc = Reader.u1 >>= K ∧ K 117 = Pure.pure .lneg := ⟨(ixKd pc).1, (ixKd pc).2, rfl⟩
theorem ix_k120 (pc : Nat) : ∃ K : Nat → Decoder Instr, Decoder.instr pc = Reader.u1 >>= K ∧ K 120 = Pure.pure .ishl := ⟨(ixKd pc).1, (ixKd pc).2, rfl⟩
theorem ix_k121 (pc : Nat) : ∃ K : Nat → Decoder Instr, Decoder.instr pc = Reader.u1 >>= K ∧ K 121 = Pure.pure .lshl := ⟨(ixKd pc).1, (ixKd pc).2, rfl⟩
theorem ix_k122 (pc : Nat) : ∃ K : Nat → Decoder Instr, Decoder.instr pc = Reader.u1 >>= K ∧ K 122 = Pure.pure .ishr := ⟨(ixKd pc).1, (ixKd pc).2, rfl⟩
theorem ix_k123 (pc : Nat) : ∃ K : Nat → Decoder Instr, Decoder.instr pc = Reader.u1 >>= K ∧ K 123 = Pure.pure .lshr := ⟨(ixKd pc).1, (ixKd pc).2, rfl⟩
theorem ix_k124 (pc : Nat) : ∃ K : Nat → Decoder Instr, Decoder.instr pc = Reader.u1 >>= K ∧ K 124 = Pure.pure .iushr := ⟨(ixKd pc).1, (ixKd pc).2, rfl⟩
theorem ix_k125 (pc : Nat) : ∃ K : Nat → Decoder Instr, Decoder.instr pc = Reader.u1 >>= K ∧ K 125 = Pure.pure .lushr := ⟨(ixKd pc).1, (ixKd pc).2, rfl⟩
theorem ix_k126 (pc : Nat) : ∃ K : Nat → Decoder Instr, Decoder.instr pc = Reader.u1 >>= K ∧ K 126 = Pure.pure .iand := ⟨(ixKd pc).1, (ixKd pc).2, rfl⟩
theorem ix_k127 (pc : Nat) : ∃ K : Nat → Decoder Instr, Decoder.instr pc = Reader.u1 >>= K ∧ K 127 = Pure.pure .land := ⟨(ixKd pc).1, (ixKd pc).2, rfl⟩
theorem ix_k128 (pc : Nat) : ∃ K : Nat → Decoder Instr, Decoder.instr pc = Reader.u1 >>= K ∧ K 128 = Pure.pure .ior := ⟨(ixKd pc).1, (ixKd pc).2, rfl⟩
theorem ix_k129 (pc : Nat) : ∃ K : Nat → Decoder Instr, Decoder.instr pc = Reader.u1 >>= K ∧ K 129 = Pure.pure .lor := ⟨(ixKd pc).1, (ixKd pc).2, rfl⟩
theorem ix_k130 (pc : Nat) : ∃ K : Nat → Decoder Instr, Decoder.instr pc = Reader.u1 >>= K ∧ K 130 = Pure.pure .ixor := ⟨(ixKd pc).1, (ixKd pc).2, rfl⟩
theorem ix_k131 (pc : Nat) : ∃ K : Nat → Decoder Instr, Decoder.instr pc = Reader.u1 >>= K ∧ K 131 = Pure.pure .lxor := ⟨(ixKd pc).1, (ixKd pc).2, rfl⟩
theorem ix_k133 (pc : Nat) : ∃ K : Nat → Decoder Instr, Decoder.instr pc = Reader.u1 >>= K ∧ K 133 = Pure.pure .i2l := ⟨(ixKd pc).1, (ixKd pc).2, rfl⟩
theorem ix_k136 (pc : Nat) : ∃ K : Nat → Decoder Instr, Decoder.instr pc = Reader.u1 >>= K ∧ K 136 = Pure.pure .l2i := ⟨(ixKd pc).1, (ixKd pc).2, rfl⟩
theorem ix_k145 (pc : Nat) : ∃ K : Nat → Decoder Instr, Decoder.instr pc = Reader.u1 >>= K ∧ K 145 = Pure.pure .i2b := ⟨(ixKd pc).1, (ixKd pc).2, rfl⟩
theorem ix_k146 (pc : Nat) : ∃ K : Nat → Decoder Instr, Decoder.instr pc = Reader.u1 >>= K ∧ K 146 = Pure.pure .i2c := ⟨(ixKd pc).1, (ixKd pc).2, rfl⟩
theorem ix_k147 (pc : Nat) : ∃ K : Nat → Decoder Instr, Decoder.instr pc = Reader.u1 >>= K ∧ K 147 = Pure.pure .i2s := ⟨(ixKd pc).1, (ixKd pc).2, rfl⟩
theorem ix_k148 (pc : Nat) : ∃ K : Nat → Decoder Instr, Decoder.instr pc = Reader.u1 >>= K ∧ K 148 = Pure.pure .lcmp := ⟨(ixKd pc).1, (ixKd pc).2, rfl⟩
theorem ix_k153 (pc : Nat) : ∃ K : Nat → Decoder Instr, Decoder.instr pc = Reader.u1 >>= K ∧ K 153 = Reader.s2 >>= fun v => Pure.pure (.ifCond .eq v) := ⟨(ixKd pc).1, (ixKd pc).2, rfl⟩
theorem ix_k154 (pc : Nat) : ∃ K : Nat → Decoder Instr, Decoder.instr pc = Reader.u1 >>= K ∧ K 154 = Reader.s2 >>= fun v => Pure.pure (.ifCond .ne v) := ⟨(ixKd pc).1, (ixKd pc).2, rfl⟩
theorem ix_k155 (pc : Nat) : ∃ K : Nat → Decoder Instr, Decoder.instr pc = Reader.u1 >>= K ∧ K 155 = Reader.s2 >>= fun v => Pure.pure (.ifCond .lt v) := ⟨(ixKd pc).1, (ixKd pc).2, rfl⟩
theorem ix_k156 (pc : Nat) : ∃ K : Nat → Decoder Instr, Decoder.instr pc = Reader.u1 >>= K ∧ K 156 = Reader.s2 >>= fun v => Pure.pure (.ifCond .ge v) := ⟨(ixKd pc).1, (ixKd pc).2, rfl⟩
theorem ix_k157 (pc : Nat) : ∃ K : Nat → Decoder Instr, Decoder.instr pc = Reader.u1 >>= K ∧ K 157 = Reader.s2 >>= fun v => Pure.pure (.ifCond .gt v) := ⟨(ixKd pc).1, (ixKd pc).2, rfl⟩
theorem ix_k158 (pc : Nat) : ∃ K : Nat → Decoder Instr, Decoder.instr pc = Reader.u1 >>= K ∧ K 158 = Reader.s2 >>= fun v => Pure.pure (.ifCond .le v) := ⟨(ixKd pc).1, (ixKd pc).2, rfl⟩
theorem ix_k159 (pc : Nat) : ∃ K : Nat → Decoder Instr, Decoder.instr pc = Reader.u1 >>= K ∧ K 159 = Reader.s2 >>= fun v => Pure.pure (.if_icmp .eq v) := ⟨(ixKd pc).1, (ixKd pc).2, rfl⟩
theorem ix_k160 (pc : Nat) : ∃ K : Nat → Decoder Instr, Decoder.instr pc = Reader.u1 >>= K ∧ K 160 = Reader.s2 >>= fun v => Pure.pure (.if_icmp .ne v) := ⟨(ixKd pc).1, (ixKd pc).2, rfl⟩
theorem ix_k161 (pc : Nat) : ∃ K : Nat → Decoder Instr, Decoder.instr pc = Reader.u1 >>= K ∧ K 161 = Reader.s2 >>= fun v => Pure.pure (.if_icmp .lt v) := ⟨(ixKd pc).1, (ixKd pc).2, rfl⟩
theorem ix_k162 (pc : Nat) : ∃ K : Nat → Decoder Instr, Decoder.instr pc = Reader.u1 >>= K ∧ K 162 = Reader.s2 >>= fun v => Pure.pure (.if_icmp .ge v) := ⟨(ixKd pc).1, (ixKd pc).2, rfl⟩
theorem ix_k163 (pc : Nat) : ∃ K : Nat → Decoder Instr, Decoder.instr pc = Reader.u1 >>= K ∧ K 163 = Reader.s2 >>= fun v => Pure.pure (.if_icmp .gt v) := ⟨(ixKd pc).1, (ixKd pc).2, rfl⟩
theorem ix_k164 (pc : Nat) : ∃ K : Nat → Decoder Instr, Decoder.instr pc = Reader.u1 >>= K ∧ K 164 = Reader.s2 >>= fun v => Pure.pure (.if_icmp .le v) := ⟨(ixKd pc).1, (ixKd pc).2, rfl⟩
theorem ix_k166 (pc : Nat) : ∃ K : Nat → Decoder Instr, Decoder.instr pc = Reader.u1 >>= K ∧ K 166 = Reader.s2 >>= fun v => Pure.pure (.if_acmp .ne v) := ⟨(ixKd pc).1, (ixKd pc).2, rfl⟩
theorem ix_k167 (pc : Nat) : ∃ K : Nat → Decoder Instr, Decoder.instr pc = Reader.u1 >>= K ∧ K 167 = Reader.s2 >>= fun v => Pure.pure (.goto v) := ⟨(ixKd pc).1, (ixKd pc).2, rfl⟩
theorem ix_k172 (pc : Nat) : ∃ K : Nat → Decoder Instr, Decoder.instr pc = Reader.u1 >>= K ∧ K 172 = Pure.pure .ireturn := ⟨(ixKd pc).1, (ixKd pc).2, rfl⟩
theorem ix_k173 (pc : Nat) : ∃ K : Nat → Decoder Instr, Decoder.instr pc = Reader.u1 >>= K ∧ K 173 = Pure.pure .lreturn := ⟨(ixKd pc).1, (ixKd pc).2, rfl⟩
theorem ix_k176 (pc : Nat) : ∃ K : Nat → Decoder Instr, Decoder.instr pc = Reader.u1 >>= K ∧ K 176 = Pure.pure .areturn := ⟨(ixKd pc).1, (ixKd pc).2, rfl⟩
theorem ix_k177 (pc : Nat) : ∃ K : Nat → Decoder Instr, Decoder.instr pc = Reader.u1 >>= K ∧ K 177 = Pure.pure .return_ := ⟨(ixKd pc).1, (ixKd pc).2, rfl⟩
theorem ix_k178 (pc : Nat) : ∃ K : Nat → Decoder Instr, Decoder.instr pc = Reader.u1 >>= K ∧ K 178 = Reader.u2 >>= fun v => Pure.pure (.getstatic v) := ⟨(ixKd pc).1, (ixKd pc).2, rfl⟩
theorem ix_k180 (pc : Nat) : ∃ K : Nat → Decoder Instr, Decoder.instr pc = Reader.u1 >>= K ∧ K 180 = Reader.u2 >>= fun v => Pure.pure (.getfield v) := ⟨(ixKd pc).1, (ixKd pc).2, rfl⟩
theorem ix_k181 (pc : Nat) : ∃ K : Nat → Decoder Instr, Decoder.instr pc = Reader.u1 >>= K ∧ K 181 = Reader.u2 >>= fun v => Pure.pure (.putfield v) := ⟨(ixKd pc).1, (ixKd pc).2, rfl⟩
theorem ix_k182 (pc : Nat) : ∃ K : Nat → Decoder Instr, Decoder.instr pc = Reader.u1 >>= K ∧ K 182 = Reader.u2 >>= fun v => Pure.pure (.invokevirtual v) := ⟨(ixKd pc).1, (ixKd pc).2, rfl⟩
theorem ix_k183 (pc : Nat) : ∃ K : Nat → Decoder Instr, Decoder.instr pc = Reader.u1 >>= K ∧ K 183 = Reader.u2 >>= fun v => Pure.pure (.invokespecial v) := ⟨(ixKd pc).1, (ixKd pc).2, rfl⟩
theorem ix_k184 (pc : Nat) : ∃ K : Nat → Decoder Instr, Decoder.instr pc = Reader.u1 >>= K ∧ K 184 = Reader.u2 >>= fun v => Pure.pure (.invokestatic v) := ⟨(ixKd pc).1, (ixKd pc).2, rfl⟩
theorem ix_k187 (pc : Nat) : ∃ K : Nat → Decoder Instr, Decoder.instr pc = Reader.u1 >>= K ∧ K 187 = Reader.u2 >>= fun v => Pure.pure (.new v) := ⟨(ixKd pc).1, (ixKd pc).2, rfl⟩
theorem ix_k189 (pc : Nat) : ∃ K : Nat → Decoder Instr, Decoder.instr pc = Reader.u1 >>= K ∧ K 189 = Reader.u2 >>= fun v => Pure.pure (.anewarray v) := ⟨(ixKd pc).1, (ixKd pc).2, rfl⟩
theorem ix_k190 (pc : Nat) : ∃ K : Nat → Decoder Instr, Decoder.instr pc = Reader.u1 >>= K ∧ K 190 = Pure.pure .arraylength := ⟨(ixKd pc).1, (ixKd pc).2, rfl⟩
theorem ix_k132 (pc : Nat) : ∃ K : Nat → Decoder Instr, Decoder.instr pc = Reader.u1 >>= K ∧ K 132 = Reader.u1 >>= fun v => Reader.s1 >>= fun w => Pure.pure (.iinc v w) := ⟨(ixKd pc).1, (ixKd pc).2, rfl⟩
theorem ix_k188 (pc : Nat) : ∃ K J : Nat → Decoder Instr, Decoder.instr pc = Reader.u1 >>= K ∧ K 188 = Reader.u1 >>= J ∧ J 4 = Pure.pure (.newarray .boolean) ∧ J 10 = Pure.pure (.newarray .int) ∧ J 11 = Pure.pure (.newarray .long) := ⟨_, _, rfl, rfl, rfl, rfl, rfl⟩
noncomputable def ix_en : Instr → List UInt8 → Bool
  | .aconst_null, x :: _ => Nat.beq x.toNat 1
  | .iaload, x :: _ => Nat.beq x.toNat 46
  | .laload, x :: _ => Nat.beq x.toNat 47
  | .aaload, x :: _ => Nat.beq x.toNat 50
  | .baload, x :: _ => Nat.beq x.toNat 51
  | .iastore, x :: _ => Nat.beq x.toNat 79
  | .lastore, x :: _ => Nat.beq x.toNat 80
  | .aastore, x :: _ => Nat.beq x.toNat 83
  | .bastore, x :: _ => Nat.beq x.toNat 84
  | .pop, x :: _ => Nat.beq x.toNat 87
  | .pop2, x :: _ => Nat.beq x.toNat 88
  | .dup, x :: _ => Nat.beq x.toNat 89
  | .dup_x1, x :: _ => Nat.beq x.toNat 90
  | .dup_x2, x :: _ => Nat.beq x.toNat 91
  | .dup2, x :: _ => Nat.beq x.toNat 92
  | .dup2_x1, x :: _ => Nat.beq x.toNat 93
  | .dup2_x2, x :: _ => Nat.beq x.toNat 94
  | .iadd, x :: _ => Nat.beq x.toNat 96
  | .ladd, x :: _ => Nat.beq x.toNat 97
  | .isub, x :: _ => Nat.beq x.toNat 100
  | .lsub, x :: _ => Nat.beq x.toNat 101
  | .imul, x :: _ => Nat.beq x.toNat 104
  | .lmul, x :: _ => Nat.beq x.toNat 105
  | .idiv, x :: _ => Nat.beq x.toNat 108
  | .ldiv, x :: _ => Nat.beq x.toNat 109
  | .irem, x :: _ => Nat.beq x.toNat 112
  | .lrem, x :: _ => Nat.beq x.toNat 113
  | .ineg, x :: _ => Nat.beq x.toNat 116
  | .lneg, x :: _ => Nat.beq x.toNat 117
  | .ishl, x :: _ => Nat.beq x.toNat 120
  | .lshl, x :: _ => Nat.beq x.toNat 121
  | .ishr, x :: _ => Nat.beq x.toNat 122
  | .lshr, x :: _ => Nat.beq x.toNat 123
  | .iushr, x :: _ => Nat.beq x.toNat 124
  | .lushr, x :: _ => Nat.beq x.toNat 125
  | .iand, x :: _ => Nat.beq x.toNat 126
  | .land, x :: _ => Nat.beq x.toNat 127
  | .ior, x :: _ => Nat.beq x.toNat 128
  | .lor, x :: _ => Nat.beq x.toNat 129
  | .ixor, x :: _ => Nat.beq x.toNat 130
  | .lxor, x :: _ => Nat.beq x.toNat 131
  | .i2l, x :: _ => Nat.beq x.toNat 133
  | .l2i, x :: _ => Nat.beq x.toNat 136
  | .i2b, x :: _ => Nat.beq x.toNat 145
  | .i2c, x :: _ => Nat.beq x.toNat 146
  | .i2s, x :: _ => Nat.beq x.toNat 147
  | .lcmp, x :: _ => Nat.beq x.toNat 148
  | .ireturn, x :: _ => Nat.beq x.toNat 172
  | .lreturn, x :: _ => Nat.beq x.toNat 173
  | .areturn, x :: _ => Nat.beq x.toNat 176
  | .return_, x :: _ => Nat.beq x.toNat 177
  | .arraylength, x :: _ => Nat.beq x.toNat 190
  | .iload_n k, x :: _ => Nat.beq x.toNat (26 + k.val)
  | .lload_n k, x :: _ => Nat.beq x.toNat (30 + k.val)
  | .aload_n k, x :: _ => Nat.beq x.toNat (42 + k.val)
  | .istore_n k, x :: _ => Nat.beq x.toNat (59 + k.val)
  | .lstore_n k, x :: _ => Nat.beq x.toNat (63 + k.val)
  | .astore_n k, x :: _ => Nat.beq x.toNat (75 + k.val)
  | .lconst k, x :: _ => Nat.beq x.toNat (9 + k.val)
  | .iconst n, x :: _ => decide ((x.toNat : Int) = n + 3 ∧ 2 ≤ x.toNat ∧ x.toNat ≤ 8)
  | .ldc v, x :: y :: _ => Nat.beq x.toNat 18 && Nat.beq y.toNat v
  | .iload v, x :: y :: _ => Nat.beq x.toNat 21 && Nat.beq y.toNat v
  | .lload v, x :: y :: _ => Nat.beq x.toNat 22 && Nat.beq y.toNat v
  | .aload v, x :: y :: _ => Nat.beq x.toNat 25 && Nat.beq y.toNat v
  | .istore v, x :: y :: _ => Nat.beq x.toNat 54 && Nat.beq y.toNat v
  | .lstore v, x :: y :: _ => Nat.beq x.toNat 55 && Nat.beq y.toNat v
  | .astore v, x :: y :: _ => Nat.beq x.toNat 58 && Nat.beq y.toNat v
  | .bipush v, x :: y :: _ => Nat.beq x.toNat 16 && decide (Reader.signed 8 y.toNat = v)
  | .ldc_w v, x :: y :: z :: _ => Nat.beq x.toNat 19 && Nat.beq (y.toNat * 256 + z.toNat) v
  | .ldc2_w v, x :: y :: z :: _ => Nat.beq x.toNat 20 && Nat.beq (y.toNat * 256 + z.toNat) v
  | .getstatic v, x :: y :: z :: _ => Nat.beq x.toNat 178 && Nat.beq (y.toNat * 256 + z.toNat) v
  | .getfield v, x :: y :: z :: _ => Nat.beq x.toNat 180 && Nat.beq (y.toNat * 256 + z.toNat) v
  | .putfield v, x :: y :: z :: _ => Nat.beq x.toNat 181 && Nat.beq (y.toNat * 256 + z.toNat) v
  | .invokevirtual v, x :: y :: z :: _ => Nat.beq x.toNat 182 && Nat.beq (y.toNat * 256 + z.toNat) v
  | .invokespecial v, x :: y :: z :: _ => Nat.beq x.toNat 183 && Nat.beq (y.toNat * 256 + z.toNat) v
  | .invokestatic v, x :: y :: z :: _ => Nat.beq x.toNat 184 && Nat.beq (y.toNat * 256 + z.toNat) v
  | .new v, x :: y :: z :: _ => Nat.beq x.toNat 187 && Nat.beq (y.toNat * 256 + z.toNat) v
  | .anewarray v, x :: y :: z :: _ => Nat.beq x.toNat 189 && Nat.beq (y.toNat * 256 + z.toNat) v
  | .sipush v, x :: y :: z :: _ => Nat.beq x.toNat 17 && decide (Reader.signed 16 (y.toNat * 256 + z.toNat) = v)
  | .ifCond .eq v, x :: y :: z :: _ => Nat.beq x.toNat 153 && decide (Reader.signed 16 (y.toNat * 256 + z.toNat) = v)
  | .ifCond .ne v, x :: y :: z :: _ => Nat.beq x.toNat 154 && decide (Reader.signed 16 (y.toNat * 256 + z.toNat) = v)
  | .ifCond .lt v, x :: y :: z :: _ => Nat.beq x.toNat 155 && decide (Reader.signed 16 (y.toNat * 256 + z.toNat) = v)
  | .ifCond .ge v, x :: y :: z :: _ => Nat.beq x.toNat 156 && decide (Reader.signed 16 (y.toNat * 256 + z.toNat) = v)
  | .ifCond .gt v, x :: y :: z :: _ => Nat.beq x.toNat 157 && decide (Reader.signed 16 (y.toNat * 256 + z.toNat) = v)
  | .ifCond .le v, x :: y :: z :: _ => Nat.beq x.toNat 158 && decide (Reader.signed 16 (y.toNat * 256 + z.toNat) = v)
  | .if_icmp .eq v, x :: y :: z :: _ => Nat.beq x.toNat 159 && decide (Reader.signed 16 (y.toNat * 256 + z.toNat) = v)
  | .if_icmp .ne v, x :: y :: z :: _ => Nat.beq x.toNat 160 && decide (Reader.signed 16 (y.toNat * 256 + z.toNat) = v)
  | .if_icmp .lt v, x :: y :: z :: _ => Nat.beq x.toNat 161 && decide (Reader.signed 16 (y.toNat * 256 + z.toNat) = v)
  | .if_icmp .ge v, x :: y :: z :: _ => Nat.beq x.toNat 162 && decide (Reader.signed 16 (y.toNat * 256 + z.toNat) = v)
  | .if_icmp .gt v, x :: y :: z :: _ => Nat.beq x.toNat 163 && decide (Reader.signed 16 (y.toNat * 256 + z.toNat) = v)
  | .if_icmp .le v, x :: y :: z :: _ => Nat.beq x.toNat 164 && decide (Reader.signed 16 (y.toNat * 256 + z.toNat) = v)
  | .if_acmp .ne v, x :: y :: z :: _ => Nat.beq x.toNat 166 && decide (Reader.signed 16 (y.toNat * 256 + z.toNat) = v)
  | .goto v, x :: y :: z :: _ => Nat.beq x.toNat 167 && decide (Reader.signed 16 (y.toNat * 256 + z.toNat) = v)
  | .iinc v w, x :: y :: z :: _ => Nat.beq x.toNat 132 && (Nat.beq y.toNat v && decide (Reader.signed 8 z.toNat = w))
  | .newarray .boolean, x :: y :: _ => Nat.beq x.toNat 188 && Nat.beq y.toNat 4
  | .newarray .int, x :: y :: _ => Nat.beq x.toNat 188 && Nat.beq y.toNat 10
  | .newarray .long, x :: y :: _ => Nat.beq x.toNat 188 && Nat.beq y.toNat 11
  | _, _ => false
set_option maxHeartbeats 8000000 in
theorem ix_ff {P : Prop} (h : false = true) : P := by cases h
theorem ix_e0 {b : ByteArray} {pc : Nat} {x : UInt8} {r : List UInt8} {i : Instr} {c : Nat} (hl : b.data.toList.drop pc = x :: r) (h : Nat.beq x.toNat c = true) (hk : ∃ K : Nat → Decoder Instr, Decoder.instr pc = Reader.u1 >>= K ∧ K c = Pure.pure i) : decode b pc = .ok (i, 1) := by
  obtain ⟨K, hK, h1⟩ := hk
  exact ix_d0 hl hK (by rw [Nat.eq_of_beq_eq_true h]; exact h1)
theorem ix_e1 {b : ByteArray} {pc : Nat} {x y : UInt8} {r : List UInt8} {f : Nat → Instr} {c v : Nat} (hl : b.data.toList.drop pc = x :: y :: r) (h : (Nat.beq x.toNat c && Nat.beq y.toNat v) = true) (hk : ∃ K : Nat → Decoder Instr, Decoder.instr pc = Reader.u1 >>= K ∧ K c = Reader.u1 >>= fun v => Pure.pure (f v)) : decode b pc = .ok (f v, 2) := by
  rw [Bool.and_eq_true] at h
  obtain ⟨K, hK, h1⟩ := hk
  rw [← Nat.eq_of_beq_eq_true h.2]
  exact ix_d1 hl hK (by rw [Nat.eq_of_beq_eq_true h.1]; exact h1)
theorem ix_e1s {b : ByteArray} {pc : Nat} {x y : UInt8} {r : List UInt8} {f : Int → Instr} {c : Nat} {v : Int} (hl : b.data.toList.drop pc = x :: y :: r) (h : (Nat.beq x.toNat c && decide (Reader.signed 8 y.toNat = v)) = true) (hk : ∃ K : Nat → Decoder Instr, Decoder.instr pc = Reader.u1 >>= K ∧ K c = Reader.s1 >>= fun v => Pure.pure (f v)) : decode b pc = .ok (f v, 2) := by
  rw [Bool.and_eq_true] at h
  obtain ⟨K, hK, h1⟩ := hk
  rw [← of_decide_eq_true h.2]
  exact ix_d1s hl hK (by rw [Nat.eq_of_beq_eq_true h.1]; exact h1)
theorem ix_e2 {b : ByteArray} {pc : Nat} {x y z : UInt8} {r : List UInt8} {f : Nat → Instr} {c v : Nat} (hl : b.data.toList.drop pc = x :: y :: z :: r) (h : (Nat.beq x.toNat c && Nat.beq (y.toNat * 256 + z.toNat) v) = true) (hk : ∃ K : Nat → Decoder Instr, Decoder.instr pc = Reader.u1 >>= K ∧ K c = Reader.u2 >>= fun v => Pure.pure (f v)) : decode b pc = .ok (f v, 3) := by
  rw [Bool.and_eq_true] at h
  obtain ⟨K, hK, h1⟩ := hk
  rw [← Nat.eq_of_beq_eq_true h.2]
  exact ix_d2 hl hK (by rw [Nat.eq_of_beq_eq_true h.1]; exact h1)
theorem ix_e2s {b : ByteArray} {pc : Nat} {x y z : UInt8} {r : List UInt8} {f : Int → Instr} {c : Nat} {v : Int} (hl : b.data.toList.drop pc = x :: y :: z :: r) (h : (Nat.beq x.toNat c && decide (Reader.signed 16 (y.toNat * 256 + z.toNat) = v)) = true) (hk : ∃ K : Nat → Decoder Instr, Decoder.instr pc = Reader.u1 >>= K ∧ K c = Reader.s2 >>= fun v => Pure.pure (f v)) : decode b pc = .ok (f v, 3) := by
  rw [Bool.and_eq_true] at h
  obtain ⟨K, hK, h1⟩ := hk
  rw [← of_decide_eq_true h.2]
  exact ix_d2s hl hK (by rw [Nat.eq_of_beq_eq_true h.1]; exact h1)
set_option maxHeartbeats 8000000 in
theorem ix_de_ok {b : ByteArray} {pc : Nat} {l : List UInt8} {i : Instr} (hl : b.data.toList.drop pc = l) (h : ix_en i l = true) : decode b pc = .ok (i, ix_len i) := by
  cases i with
  | aconst_null =>
    cases l with
    | nil => exact ix_ff h
    | cons x r =>
      exact ix_e0 (c := 1) hl h (ix_k1 pc)
  | iaload =>
    cases l with
    | nil => exact ix_ff h
    | cons x r =>
      exact ix_e0 (c := 46) hl h (ix_k46 pc)
  | laload =>
    cases l with
    | nil => exact ix_ff h
    | cons x r =>
      exact ix_e0 (c := 47) hl h (ix_k47 pc)
  | aaload =>
    cases l with
    | nil => exact ix_ff h
    | cons x r =>
      exact ix_e0 (c := 50) hl h (ix_k50 pc)
  | baload =>
    cases l with
    | nil => exact ix_ff h
    | cons x r =>
      exact ix_e0 (c := 51) hl h (ix_k51 pc)
  | iastore =>
    cases l with
    | nil => exact ix_ff h
    | cons x r =>
      exact ix_e0 (c := 79) hl h (ix_k79 pc)
  | lastore =>
    cases l with
    | nil => exact ix_ff h
    | cons x r =>
      exact ix_e0 (c := 80) hl h (ix_k80 pc)
  | aastore =>
    cases l with
    | nil => exact ix_ff h
    | cons x r =>
      exact ix_e0 (c := 83) hl h (ix_k83 pc)
  | bastore =>
    cases l with
    | nil => exact ix_ff h
    | cons x r =>
      exact ix_e0 (c := 84) hl h (ix_k84 pc)
  | pop =>
    cases l with
    | nil => exact ix_ff h
    | cons x r =>
      exact ix_e0 (c := 87) hl h (ix_k87 pc)
  | pop2 =>
    cases l with
    | nil => exact ix_ff h
    | cons x r =>
      exact ix_e0 (c := 88) hl h (ix_k88 pc)
  | dup =>
    cases l with
    | nil => exact ix_ff h
    | cons x r =>
      exact ix_e0 (c := 89) hl h (ix_k89 pc)
  | dup_x1 =>
    cases l with
    | nil => exact ix_ff h
    | cons x r =>
      exact ix_e0 (c := 90) hl h (ix_k90 pc)
  | dup_x2 =>
    cases l with
    | nil => exact ix_ff h
    | cons x r =>
      exact ix_e0 (c := 91) hl h (ix_k91 pc)
  | dup2 =>
    cases l with
    | nil => exact ix_ff h
    | cons x r =>
      exact ix_e0 (c := 92) hl h (ix_k92 pc)
  | dup2_x1 =>
    cases l with
    | nil => exact ix_ff h
    | cons x r =>
      exact ix_e0 (c := 93) hl h (ix_k93 pc)
  | dup2_x2 =>
    cases l with
    | nil => exact ix_ff h
    | cons x r =>
      exact ix_e0 (c := 94) hl h (ix_k94 pc)
  | iadd =>
    cases l with
    | nil => exact ix_ff h
    | cons x r =>
      exact ix_e0 (c := 96) hl h (ix_k96 pc)
  | ladd =>
    cases l with
    | nil => exact ix_ff h
    | cons x r =>
      exact ix_e0 (c := 97) hl h (ix_k97 pc)
  | isub =>
    cases l with
    | nil => exact ix_ff h
    | cons x r =>
      exact ix_e0 (c := 100) hl h (ix_k100 pc)
  | lsub =>
    cases l with
    | nil => exact ix_ff h
    | cons x r =>
      exact ix_e0 (c := 101) hl h (ix_k101 pc)
  | imul =>
    cases l with
    | nil => exact ix_ff h
    | cons x r =>
      exact ix_e0 (c := 104) hl h (ix_k104 pc)
  | lmul =>
    cases l with
    | nil => exact ix_ff h
    | cons x r =>
      exact ix_e0 (c := 105) hl h (ix_k105 pc)
  | idiv =>
    cases l with
    | nil => exact ix_ff h
    | cons x r =>
      exact ix_e0 (c := 108) hl h (ix_k108 pc)
  | ldiv =>
    cases l with
    | nil => exact ix_ff h
    | cons x r =>
      exact ix_e0 (c := 109) hl h (ix_k109 pc)
  | irem =>
    cases l with
    | nil => exact ix_ff h
    | cons x r =>
      exact ix_e0 (c := 112) hl h (ix_k112 pc)
  | lrem =>
    cases l with
    | nil => exact ix_ff h
    | cons x r =>
      exact ix_e0 (c := 113) hl h (ix_k113 pc)
  | ineg =>
    cases l with
    | nil => exact ix_ff h
    | cons x r =>
      exact ix_e0 (c := 116) hl h (ix_k116 pc)
  | lneg =>
    cases l with
    | nil => exact ix_ff h
    | cons x r =>
      exact ix_e0 (c := 117) hl h (ix_k117 pc)
  | ishl =>
    cases l with
    | nil => exact ix_ff h
    | cons x r =>
      exact ix_e0 (c := 120) hl h (ix_k120 pc)
  | lshl =>
    cases l with
    | nil => exact ix_ff h
    | cons x r =>
      exact ix_e0 (c := 121) hl h (ix_k121 pc)
  | ishr =>
    cases l with
    | nil => exact ix_ff h
    | cons x r =>
      exact ix_e0 (c := 122) hl h (ix_k122 pc)
  | lshr =>
    cases l with
    | nil => exact ix_ff h
    | cons x r =>
      exact ix_e0 (c := 123) hl h (ix_k123 pc)
  | iushr =>
    cases l with
    | nil => exact ix_ff h
    | cons x r =>
      exact ix_e0 (c := 124) hl h (ix_k124 pc)
  | lushr =>
    cases l with
    | nil => exact ix_ff h
    | cons x r =>
      exact ix_e0 (c := 125) hl h (ix_k125 pc)
  | iand =>
    cases l with
    | nil => exact ix_ff h
    | cons x r =>
      exact ix_e0 (c := 126) hl h (ix_k126 pc)
  | land =>
    cases l with
    | nil => exact ix_ff h
    | cons x r =>
      exact ix_e0 (c := 127) hl h (ix_k127 pc)
  | ior =>
    cases l with
    | nil => exact ix_ff h
    | cons x r =>
      exact ix_e0 (c := 128) hl h (ix_k128 pc)
  | lor =>
    cases l with
    | nil => exact ix_ff h
    | cons x r =>
      exact ix_e0 (c := 129) hl h (ix_k129 pc)
  | ixor =>
    cases l with
    | nil => exact ix_ff h
    | cons x r =>
      exact ix_e0 (c := 130) hl h (ix_k130 pc)
  | lxor =>
    cases l with
    | nil => exact ix_ff h
    | cons x r =>
      exact ix_e0 (c := 131) hl h (ix_k131 pc)
  | i2l =>
    cases l with
    | nil => exact ix_ff h
    | cons x r =>
      exact ix_e0 (c := 133) hl h (ix_k133 pc)
  | l2i =>
    cases l with
    | nil => exact ix_ff h
    | cons x r =>
      exact ix_e0 (c := 136) hl h (ix_k136 pc)
  | i2b =>
    cases l with
    | nil => exact ix_ff h
    | cons x r =>
      exact ix_e0 (c := 145) hl h (ix_k145 pc)
  | i2c =>
    cases l with
    | nil => exact ix_ff h
    | cons x r =>
      exact ix_e0 (c := 146) hl h (ix_k146 pc)
  | i2s =>
    cases l with
    | nil => exact ix_ff h
    | cons x r =>
      exact ix_e0 (c := 147) hl h (ix_k147 pc)
  | lcmp =>
    cases l with
    | nil => exact ix_ff h
    | cons x r =>
      exact ix_e0 (c := 148) hl h (ix_k148 pc)
  | ireturn =>
    cases l with
    | nil => exact ix_ff h
    | cons x r =>
      exact ix_e0 (c := 172) hl h (ix_k172 pc)
  | lreturn =>
    cases l with
    | nil => exact ix_ff h
    | cons x r =>
      exact ix_e0 (c := 173) hl h (ix_k173 pc)
  | areturn =>
    cases l with
    | nil => exact ix_ff h
    | cons x r =>
      exact ix_e0 (c := 176) hl h (ix_k176 pc)
  | return_ =>
    cases l with
    | nil => exact ix_ff h
    | cons x r =>
      exact ix_e0 (c := 177) hl h (ix_k177 pc)
  | arraylength =>
    cases l with
    | nil => exact ix_ff h
    | cons x r =>
      exact ix_e0 (c := 190) hl h (ix_k190 pc)
  | iload_n k =>
    cases l with
    | nil => exact ix_ff h
    | cons x r =>
      have h : Nat.beq x.toNat (26 + k.val) = true := h
      have hx := Nat.eq_of_beq_eq_true h
      rcases k with ⟨k, hk⟩
      rcases (show k = 0 ∨ k = 1 ∨ k = 2 ∨ k = 3 by omega) with rfl | rfl | rfl | rfl
      · obtain ⟨K, hK, h1⟩ := ix_k26 pc
        exact ix_d0 hl hK (by rw [hx]; exact h1)
      · obtain ⟨K, hK, h1⟩ := ix_k27 pc
        exact ix_d0 hl hK (by rw [hx]; exact h1)
      · obtain ⟨K, hK, h1⟩ := ix_k28 pc
        exact ix_d0 hl hK (by rw [hx]; exact h1)
      · obtain ⟨K, hK, h1⟩ := ix_k29 pc
        exact ix_d0 hl hK (by rw [hx]; exact h1)
  | lload_n k =>
    cases l with
    | nil => exact ix_ff h
    | cons x r =>
      have h : Nat.beq x.toNat (30 + k.val) = true := h
      have hx := Nat.eq_of_beq_eq_true h
      rcases k with ⟨k, hk⟩
      rcases (show k = 0 ∨ k = 1 ∨ k = 2 ∨ k = 3 by omega) with rfl | rfl | rfl | rfl
      · obtain ⟨K, hK, h1⟩ := ix_k30 pc
        exact ix_d0 hl hK (by rw [hx]; exact h1)
      · obtain ⟨K, hK, h1⟩ := ix_k31 pc
        exact ix_d0 hl hK (by rw [hx]; exact h1)
      · obtain ⟨K, hK, h1⟩ := ix_k32 pc
        exact ix_d0 hl hK (by rw [hx]; exact h1)
      · obtain ⟨K, hK, h1⟩ := ix_k33 pc
        exact ix_d0 hl hK (by rw [hx]; exact h1)
  | aload_n k =>
    cases l with
    | nil => exact ix_ff h
    | cons x r =>
      have h : Nat.beq x.toNat (42 + k.val) = true := h
      have hx := Nat.eq_of_beq_eq_true h
      rcases k with ⟨k, hk⟩
      rcases (show k = 0 ∨ k = 1 ∨ k = 2 ∨ k = 3 by omega) with rfl | rfl | rfl | rfl
      · obtain ⟨K, hK, h1⟩ := ix_k42 pc
        exact ix_d0 hl hK (by rw [hx]; exact h1)
      · obtain ⟨K, hK, h1⟩ := ix_k43 pc
        exact ix_d0 hl hK (by rw [hx]; exact h1)
      · obtain ⟨K, hK, h1⟩ := ix_k44 pc
        exact ix_d0 hl hK (by rw [hx]; exact h1)
      · obtain ⟨K, hK, h1⟩ := ix_k45 pc
        exact ix_d0 hl hK (by rw [hx]; exact h1)
  | istore_n k =>
    cases l with
    | nil => exact ix_ff h
    | cons x r =>
      have h : Nat.beq x.toNat (59 + k.val) = true := h
      have hx := Nat.eq_of_beq_eq_true h
      rcases k with ⟨k, hk⟩
      rcases (show k = 0 ∨ k = 1 ∨ k = 2 ∨ k = 3 by omega) with rfl | rfl | rfl | rfl
      · obtain ⟨K, hK, h1⟩ := ix_k59 pc
        exact ix_d0 hl hK (by rw [hx]; exact h1)
      · obtain ⟨K, hK, h1⟩ := ix_k60 pc
        exact ix_d0 hl hK (by rw [hx]; exact h1)
      · obtain ⟨K, hK, h1⟩ := ix_k61 pc
        exact ix_d0 hl hK (by rw [hx]; exact h1)
      · obtain ⟨K, hK, h1⟩ := ix_k62 pc
        exact ix_d0 hl hK (by rw [hx]; exact h1)
  | lstore_n k =>
    cases l with
    | nil => exact ix_ff h
    | cons x r =>
      have h : Nat.beq x.toNat (63 + k.val) = true := h
      have hx := Nat.eq_of_beq_eq_true h
      rcases k with ⟨k, hk⟩
      rcases (show k = 0 ∨ k = 1 ∨ k = 2 ∨ k = 3 by omega) with rfl | rfl | rfl | rfl
      · obtain ⟨K, hK, h1⟩ := ix_k63 pc
        exact ix_d0 hl hK (by rw [hx]; exact h1)
      · obtain ⟨K, hK, h1⟩ := ix_k64 pc
        exact ix_d0 hl hK (by rw [hx]; exact h1)
      · obtain ⟨K, hK, h1⟩ := ix_k65 pc
        exact ix_d0 hl hK (by rw [hx]; exact h1)
      · obtain ⟨K, hK, h1⟩ := ix_k66 pc
        exact ix_d0 hl hK (by rw [hx]; exact h1)
  | astore_n k =>
    cases l with
    | nil => exact ix_ff h
    | cons x r =>
      have h : Nat.beq x.toNat (75 + k.val) = true := h
      have hx := Nat.eq_of_beq_eq_true h
      rcases k with ⟨k, hk⟩
      rcases (show k = 0 ∨ k = 1 ∨ k = 2 ∨ k = 3 by omega) with rfl | rfl | rfl | rfl
      · obtain ⟨K, hK, h1⟩ := ix_k75 pc
        exact ix_d0 hl hK (by rw [hx]; exact h1)
      · obtain ⟨K, hK, h1⟩ := ix_k76 pc
        exact ix_d0 hl hK (by rw [hx]; exact h1)
      · obtain ⟨K, hK, h1⟩ := ix_k77 pc
        exact ix_d0 hl hK (by rw [hx]; exact h1)
      · obtain ⟨K, hK, h1⟩ := ix_k78 pc
        exact ix_d0 hl hK (by rw [hx]; exact h1)
  | lconst k =>
    cases l with
    | nil => exact ix_ff h
    | cons x r =>
      have h : Nat.beq x.toNat (9 + k.val) = true := h
      have hx := Nat.eq_of_beq_eq_true h
      rcases k with ⟨k, hk⟩
      rcases (show k = 0 ∨ k = 1 by omega) with rfl | rfl
      · obtain ⟨K, hK, h1⟩ := ix_k9 pc
        exact ix_d0 hl hK (by rw [hx]; exact h1)
      · obtain ⟨K, hK, h1⟩ := ix_k10 pc
        exact ix_d0 hl hK (by rw [hx]; exact h1)
  | iconst n =>
    cases l with
    | nil => exact ix_ff h
    | cons x r =>
      have h : decide ((x.toNat : Int) = n + 3 ∧ 2 ≤ x.toNat ∧ x.toNat ≤ 8) = true := h
      obtain ⟨h2, h3, h4⟩ := of_decide_eq_true h
      rcases (show x.toNat = 2 ∨ x.toNat = 3 ∨ x.toNat = 4 ∨ x.toNat = 5 ∨ x.toNat = 6 ∨ x.toNat = 7 ∨ x.toNat = 8 by omega) with hx | hx | hx | hx | hx | hx | hx
      · have hn : n = (-1) := by omega
        subst hn
        obtain ⟨K, hK, h1⟩ := ix_k2 pc
        exact ix_d0 hl hK (by rw [hx]; exact h1)
      · have hn : n = 0 := by omega
        subst hn
        obtain ⟨K, hK, h1⟩ := ix_k3 pc
        exact ix_d0 hl hK (by rw [hx]; exact h1)
      · have hn : n = 1 := by omega
        subst hn
        obtain ⟨K, hK, h1⟩ := ix_k4 pc
        exact ix_d0 hl hK (by rw [hx]; exact h1)
      · have hn : n = 2 := by omega
        subst hn
        obtain ⟨K, hK, h1⟩ := ix_k5 pc
        exact ix_d0 hl hK (by rw [hx]; exact h1)
      · have hn : n = 3 := by omega
        subst hn
        obtain ⟨K, hK, h1⟩ := ix_k6 pc
        exact ix_d0 hl hK (by rw [hx]; exact h1)
      · have hn : n = 4 := by omega
        subst hn
        obtain ⟨K, hK, h1⟩ := ix_k7 pc
        exact ix_d0 hl hK (by rw [hx]; exact h1)
      · have hn : n = 5 := by omega
        subst hn
        obtain ⟨K, hK, h1⟩ := ix_k8 pc
        exact ix_d0 hl hK (by rw [hx]; exact h1)
  | ldc v =>
    rcases l with _ | ⟨x, _ | ⟨y, r⟩⟩
    · exact ix_ff h
    · exact ix_ff h
    · exact ix_e1 (f := Instr.ldc) (c := 18) (v := v) hl h (ix_k18 pc)
  | iload v =>
    rcases l with _ | ⟨x, _ | ⟨y, r⟩⟩
    · exact ix_ff h
    · exact ix_ff h
    · exact ix_e1 (f := Instr.iload) (c := 21) (v := v) hl h (ix_k21 pc)
  | lload v =>
    rcases l with _ | ⟨x, _ | ⟨y, r⟩⟩
    · exact ix_ff h
    · exact ix_ff h
    · exact ix_e1 (f := Instr.lload) (c := 22) (v := v) hl h (ix_k22 pc)
  | aload v =>
    rcases l with _ | ⟨x, _ | ⟨y, r⟩⟩
    · exact ix_ff h
    · exact ix_ff h
    · exact ix_e1 (f := Instr.aload) (c := 25) (v := v) hl h (ix_k25 pc)
  | istore v =>
    rcases l with _ | ⟨x, _ | ⟨y, r⟩⟩
    · exact ix_ff h
    · exact ix_ff h
    · exact ix_e1 (f := Instr.istore) (c := 54) (v := v) hl h (ix_k54 pc)
  | lstore v =>
    rcases l with _ | ⟨x, _ | ⟨y, r⟩⟩
    · exact ix_ff h
    · exact ix_ff h
    · exact ix_e1 (f := Instr.lstore) (c := 55) (v := v) hl h (ix_k55 pc)
  | astore v =>
    rcases l with _ | ⟨x, _ | ⟨y, r⟩⟩
    · exact ix_ff h
    · exact ix_ff h
    · exact ix_e1 (f := Instr.astore) (c := 58) (v := v) hl h (ix_k58 pc)
  | bipush v =>
    rcases l with _ | ⟨x, _ | ⟨y, r⟩⟩
    · exact ix_ff h
    · exact ix_ff h
    · exact ix_e1s (f := Instr.bipush) (c := 16) (v := v) hl h (ix_k16 pc)
  | ldc_w v =>
    rcases l with _ | ⟨x, _ | ⟨y, _ | ⟨z, r⟩⟩⟩
    · exact ix_ff h
    · exact ix_ff h
    · exact ix_ff h
    · exact ix_e2 (f := Instr.ldc_w) (c := 19) (v := v) hl h (ix_k19 pc)
  | ldc2_w v =>
    rcases l with _ | ⟨x, _ | ⟨y, _ | ⟨z, r⟩⟩⟩
    · exact ix_ff h
    · exact ix_ff h
    · exact ix_ff h
    · exact ix_e2 (f := Instr.ldc2_w) (c := 20) (v := v) hl h (ix_k20 pc)
  | getstatic v =>
    rcases l with _ | ⟨x, _ | ⟨y, _ | ⟨z, r⟩⟩⟩
    · exact ix_ff h
    · exact ix_ff h
    · exact ix_ff h
    · exact ix_e2 (f := Instr.getstatic) (c := 178) (v := v) hl h (ix_k178 pc)
  | getfield v =>
    rcases l with _ | ⟨x, _ | ⟨y, _ | ⟨z, r⟩⟩⟩
    · exact ix_ff h
    · exact ix_ff h
    · exact ix_ff h
    · exact ix_e2 (f := Instr.getfield) (c := 180) (v := v) hl h (ix_k180 pc)
  | putfield v =>
    rcases l with _ | ⟨x, _ | ⟨y, _ | ⟨z, r⟩⟩⟩
    · exact ix_ff h
    · exact ix_ff h
    · exact ix_ff h
    · exact ix_e2 (f := Instr.putfield) (c := 181) (v := v) hl h (ix_k181 pc)
  | invokevirtual v =>
    rcases l with _ | ⟨x, _ | ⟨y, _ | ⟨z, r⟩⟩⟩
    · exact ix_ff h
    · exact ix_ff h
    · exact ix_ff h
    · exact ix_e2 (f := Instr.invokevirtual) (c := 182) (v := v) hl h (ix_k182 pc)
  | invokespecial v =>
    rcases l with _ | ⟨x, _ | ⟨y, _ | ⟨z, r⟩⟩⟩
    · exact ix_ff h
    · exact ix_ff h
    · exact ix_ff h
    · exact ix_e2 (f := Instr.invokespecial) (c := 183) (v := v) hl h (ix_k183 pc)
  | invokestatic v =>
    rcases l with _ | ⟨x, _ | ⟨y, _ | ⟨z, r⟩⟩⟩
    · exact ix_ff h
    · exact ix_ff h
    · exact ix_ff h
    · exact ix_e2 (f := Instr.invokestatic) (c := 184) (v := v) hl h (ix_k184 pc)
  | new v =>
    rcases l with _ | ⟨x, _ | ⟨y, _ | ⟨z, r⟩⟩⟩
    · exact ix_ff h
    · exact ix_ff h
    · exact ix_ff h
    · exact ix_e2 (f := Instr.new) (c := 187) (v := v) hl h (ix_k187 pc)
  | anewarray v =>
    rcases l with _ | ⟨x, _ | ⟨y, _ | ⟨z, r⟩⟩⟩
    · exact ix_ff h
    · exact ix_ff h
    · exact ix_ff h
    · exact ix_e2 (f := Instr.anewarray) (c := 189) (v := v) hl h (ix_k189 pc)
  | sipush v =>
    rcases l with _ | ⟨x, _ | ⟨y, _ | ⟨z, r⟩⟩⟩
    · exact ix_ff h
    · exact ix_ff h
    · exact ix_ff h
    · exact ix_e2s (f := Instr.sipush) (c := 17) (v := v) hl h (ix_k17 pc)
  | ifCond w v =>
    cases w with
    | eq =>
      rcases l with _ | ⟨x, _ | ⟨y, _ | ⟨z, r⟩⟩⟩
      · exact ix_ff h
      · exact ix_ff h
      · exact ix_ff h
      · exact ix_e2s (f := Instr.ifCond .eq) (c := 153) (v := v) hl h (ix_k153 pc)
    | ne =>
      rcases l with _ | ⟨x, _ | ⟨y, _ | ⟨z, r⟩⟩⟩
      · exact ix_ff h
      · exact ix_ff h
      · exact ix_ff h
      · exact ix_e2s (f := Instr.ifCond .ne) (c := 154) (v := v) hl h (ix_k154 pc)
    | lt =>
      rcases l with _ | ⟨x, _ | ⟨y, _ | ⟨z, r⟩⟩⟩
      · exact ix_ff h
      · exact ix_ff h
      · exact ix_ff h
      · exact ix_e2s (f := Instr.ifCond .lt) (c := 155) (v := v) hl h (ix_k155 pc)
    | ge =>
      rcases l with _ | ⟨x, _ | ⟨y, _ | ⟨z, r⟩⟩⟩
      · exact ix_ff h
      · exact ix_ff h
      · exact ix_ff h
      · exact ix_e2s (f := Instr.ifCond .ge) (c := 156) (v := v) hl h (ix_k156 pc)
    | gt =>
      rcases l with _ | ⟨x, _ | ⟨y, _ | ⟨z, r⟩⟩⟩
      · exact ix_ff h
      · exact ix_ff h
      · exact ix_ff h
      · exact ix_e2s (f := Instr.ifCond .gt) (c := 157) (v := v) hl h (ix_k157 pc)
    | le =>
      rcases l with _ | ⟨x, _ | ⟨y, _ | ⟨z, r⟩⟩⟩
      · exact ix_ff h
      · exact ix_ff h
      · exact ix_ff h
      · exact ix_e2s (f := Instr.ifCond .le) (c := 158) (v := v) hl h (ix_k158 pc)
  | if_icmp w v =>
    cases w with
    | eq =>
      rcases l with _ | ⟨x, _ | ⟨y, _ | ⟨z, r⟩⟩⟩
      · exact ix_ff h
      · exact ix_ff h
      · exact ix_ff h
      · exact ix_e2s (f := Instr.if_icmp .eq) (c := 159) (v := v) hl h (ix_k159 pc)
    | ne =>
      rcases l with _ | ⟨x, _ | ⟨y, _ | ⟨z, r⟩⟩⟩
      · exact ix_ff h
      · exact ix_ff h
      · exact ix_ff h
      · exact ix_e2s (f := Instr.if_icmp .ne) (c := 160) (v := v) hl h (ix_k160 pc)
    | lt =>
      rcases l with _ | ⟨x, _ | ⟨y, _ | ⟨z, r⟩⟩⟩
      · exact ix_ff h
      · exact ix_ff h
      · exact ix_ff h
      · exact ix_e2s (f := Instr.if_icmp .lt) (c := 161) (v := v) hl h (ix_k161 pc)
    | ge =>
      rcases l with _ | ⟨x, _ | ⟨y, _ | ⟨z, r⟩⟩⟩
      · exact ix_ff h
      · exact ix_ff h
      · exact ix_ff h
      · exact ix_e2s (f := Instr.if_icmp .ge) (c := 162) (v := v) hl h (ix_k162 pc)
    | gt =>
      rcases l with _ | ⟨x, _ | ⟨y, _ | ⟨z, r⟩⟩⟩
      · exact ix_ff h
      · exact ix_ff h
      · exact ix_ff h
      · exact ix_e2s (f := Instr.if_icmp .gt) (c := 163) (v := v) hl h (ix_k163 pc)
    | le =>
      rcases l with _ | ⟨x, _ | ⟨y, _ | ⟨z, r⟩⟩⟩
      · exact ix_ff h
      · exact ix_ff h
      · exact ix_ff h
      · exact ix_e2s (f := Instr.if_icmp .le) (c := 164) (v := v) hl h (ix_k164 pc)
  | if_acmp w v =>
    cases w with
    | ne =>
      rcases l with _ | ⟨x, _ | ⟨y, _ | ⟨z, r⟩⟩⟩
      · exact ix_ff h
      · exact ix_ff h
      · exact ix_ff h
      · exact ix_e2s (f := Instr.if_acmp .ne) (c := 166) (v := v) hl h (ix_k166 pc)
    | eq => exact ix_ff h
  | goto v =>
    rcases l with _ | ⟨x, _ | ⟨y, _ | ⟨z, r⟩⟩⟩
    · exact ix_ff h
    · exact ix_ff h
    · exact ix_ff h
    · exact ix_e2s (f := Instr.goto) (c := 167) (v := v) hl h (ix_k167 pc)
  | iinc v w =>
    rcases l with _ | ⟨x, _ | ⟨y, _ | ⟨z, r⟩⟩⟩
    · exact ix_ff h
    · exact ix_ff h
    · exact ix_ff h
    · have h : (Nat.beq x.toNat 132 && (Nat.beq y.toNat v && decide (Reader.signed 8 z.toNat = w))) = true := h
      simp only [Bool.and_eq_true] at h
      obtain ⟨K, hK, h1⟩ := ix_k132 pc
      rw [← Nat.eq_of_beq_eq_true h.2.1, ← of_decide_eq_true h.2.2]
      refine ix_dfin ?_
      rw [hK, ix_bnd (ix_u1 hl), Nat.eq_of_beq_eq_true h.1, h1, ix_bnd (ix_u1 (ix_dl (n := 1) (l1 := [_]) hl rfl)), ix_bnd (ix_s1 (p := pc + 1 + 1) (ix_dl (pc := pc) (n := 2) (l1 := [_, _]) hl rfl))]
      rfl
  | newarray w =>
    cases w with
    | boolean =>
      rcases l with _ | ⟨x, _ | ⟨y, r⟩⟩
      · exact ix_ff h
      · exact ix_ff h
      · have h : (Nat.beq x.toNat 188 && Nat.beq y.toNat 4) = true := h
        rw [Bool.and_eq_true] at h
        obtain ⟨K, J, hK, h1, j4, j10, j11⟩ := ix_k188 pc
        refine ix_dfin ?_
        rw [hK, ix_bnd (ix_u1 hl), Nat.eq_of_beq_eq_true h.1, h1, ix_bnd (ix_u1 (ix_dl (n := 1) (l1 := [_]) hl rfl)), Nat.eq_of_beq_eq_true h.2, j4]
        rfl
    | int =>
      rcases l with _ | ⟨x, _ | ⟨y, r⟩⟩
      · exact ix_ff h
      · exact ix_ff h
      · have h : (Nat.beq x.toNat 188 && Nat.beq y.toNat 10) = true := h
        rw [Bool.and_eq_true] at h
        obtain ⟨K, J, hK, h1, j4, j10, j11⟩ := ix_k188 pc
        refine ix_dfin ?_
        rw [hK, ix_bnd (ix_u1 hl), Nat.eq_of_beq_eq_true h.1, h1, ix_bnd (ix_u1 (ix_dl (n := 1) (l1 := [_]) hl rfl)), Nat.eq_of_beq_eq_true h.2, j10]
        rfl
    | long =>
      rcases l with _ | ⟨x, _ | ⟨y, r⟩⟩
      · exact ix_ff h
      · exact ix_ff h
      · have h : (Nat.beq x.toNat 188 && Nat.beq y.toNat 11) = true := h
        rw [Bool.and_eq_true] at h
        obtain ⟨K, J, hK, h1, j4, j10, j11⟩ := ix_k188 pc
        refine ix_dfin ?_
        rw [hK, ix_bnd (ix_u1 hl), Nat.eq_of_beq_eq_true h.1, h1, ix_bnd (ix_u1 (ix_dl (n := 1) (l1 := [_]) hl rfl)), Nat.eq_of_beq_eq_true h.2, j11]
        rfl
    | _ => exact ix_ff h
  | _ => exact ix_ff h
/-- one pass over the bytes: where the table has an instruction (no switch), the bytes say it -/
noncomputable def ix_scan (cd : Nat → Option Instr) : Nat → List UInt8 → Bool
  | _, [] => true
  | pc, x :: r => (match cd pc with
    | none => true
    | some i => bif Nat.beq (ix_len i) 0 then true else ix_en i (x :: r)) && ix_scan cd (pc + 1) r
theorem ix_scan_ok {b : ByteArray} {cd : Nat → Option Instr} : ∀ {l : List UInt8} {pc : Nat}, b.data.toList.drop pc = l → ix_scan cd pc l = true → ∀ (q : Nat) (i : Instr), pc ≤ q → q < b.data.toList.length → cd q = some i → ¬ ix_len i = 0 → decode b q = .ok (i, ix_len i)
  | [], pc, hl, _, q, i, h1, h2, _, _ => by
    have : b.data.toList.length ≤ pc := List.drop_eq_nil_iff.mp hl
    omega
  | x :: r, pc, hl, h, q, i, h1, h2, hc, hn => by
    unfold ix_scan at h
    rw [Bool.and_eq_true] at h
    by_cases hq : q = pc
    · subst hq
      have h3 := h.1
      rw [hc] at h3
      simp only at h3
      have hb : Nat.beq (ix_len i) 0 = false := by
        cases hb : Nat.beq (ix_len i) 0 with
        | false => rfl
        | true => exact absurd (Nat.eq_of_beq_eq_true hb) hn
      rw [hb] at h3
      exact ix_de_ok hl h3
    · exact ix_scan_ok (l := r) (pc := pc + 1) (by rw [← List.drop_drop, hl]; rfl) h.2 q i (by omega) h2 hc hn
theorem ix_bno {α : Type} {n pc : Nat} (x : Option α) (h : ¬ pc < n) : (bif Nat.blt pc n then x else none) = none := by
  cases hb : Nat.blt pc n with
  | false => rfl
  | true => exact absurd (Nat.blt_eq.mp hb) h
/-- the switches, each by itself -/
noncomputable def ix_sw (b : ByteArray) (cd : Nat → Option Instr) (n : Nat) (pcs : List Nat) : Bool := (List.range n).all (fun pc => match cd pc with
  | none => true
  | some i => bif Nat.beq (ix_len i) 0 then pcs.contains pc else true) && pcs.all (fun pc => match cd pc with
  | none => true
  | some i => match decode b pc with
    | .ok (j, _) => decide (j = i)
    | .error _ => false)
noncomputable def ix_cdok (b : ByteArray) (cd : Nat → Option Instr) (n : Nat) (pcs : List Nat) : Bool := ix_scan cd 0 b.data.toList && Nat.beq b.data.toList.length n && ix_sw b cd n pcs
theorem ix_cd_ok {b : ByteArray} {cd : Nat → Option Instr} {n : Nat} {pcs : List Nat} (h : ix_cdok b cd n pcs = true) (hn : ∀ pc, ¬ pc < n → cd pc = none) (pc : Nat) (i : Instr) (hi : cd pc = some i) : ∃ len : Nat, decode b pc = .ok (i, len) ∧ (ix_len i = 0 ∨ ix_len i = len) := by
  have hp : pc < n := by
    rcases Nat.lt_or_ge pc n with h | h
    · exact h
    · rw [hn pc (Nat.not_lt.mpr h)] at hi; cases hi
  unfold ix_cdok at h
  simp only [Bool.and_eq_true] at h
  obtain ⟨⟨h1, h2⟩, h3⟩ := h
  have h2 := Nat.eq_of_beq_eq_true h2
  by_cases hz : ix_len i = 0
  · unfold ix_sw at h3
    simp only [Bool.and_eq_true] at h3
    have h4 := List.all_eq_true.mp h3.1 pc (List.mem_range.mpr hp)
    rw [hi] at h4
    simp only [hz] at h4
    have h5 := List.all_eq_true.mp h3.2 pc (by simpa using h4)
    rw [hi] at h5
    simp only at h5
    split at h5
    · rename_i j len hd
      exact ⟨len, by rw [hd, of_decide_eq_true h5], Or.inl hz⟩
    · cases h5
  · exact ⟨ix_len i, ix_scan_ok (pc := 0) rfl h1 pc i (Nat.zero_le _) (by rw [h2]; exact hp) hi hz, Or.inr rfl⟩
end
section
/-! ===== the same interpreter, laid out so that the kernel works it fast ===== -/
/-- what one instruction does -/
noncomputable def ix_sem (T : ix_T) (f : ix_F) (M : ix_M) (i : Instr) (pc : Nat) (ls : ix_L) (st : List Value) (hp : ix_H) : Option (ix_S ⊕ (Option Value × ix_H)) := match ix_ret M.2.2.2.2.1 i st with
      | some rv => some (.inr (rv, hp))
      | none => match ix_alu i st with
        | some st' => some (.inl (pc + ix_len i, ls, st', hp))
        | none => match ix_loc i M.2.2.2.1 ls st with
          | some (ls', st') => some (.inl (pc + ix_len i, ls', st', hp))
          | none => match ix_hp T M.1 M.2.2.2.2.2.1 i st hp with
            | some (st', hp') => some (.inl (pc + ix_len i, ls, st', hp'))
            | none => match ix_br i pc st with
              | some (pc', st') => some (.inl (pc', ls, st', hp))
              | none => match ix_cal T f M.1 i st hp with
                | some (st', hp') => some (.inl (pc + ix_len i, ls, st', hp'))
                | none => none
theorem ix_one_sem (T : ix_T) (f : ix_F) (M : ix_M) (pc : Nat) (ls : ix_L) (st : List Value) (hp : ix_H) {i : Instr} (hi : M.2.2.2.2.2.2 pc = some i) : ix_one T f M (pc, ls, st, hp) = ix_sem T f M i pc ls st hp := by
  show (match M.2.2.2.2.2.2 pc with
    | none => none
    | some i => ix_sem T f M i pc ls st hp) = _
  rw [hi]
section IYF
variable {T : ix_T} {f : ix_F} {M : ix_M} {pc : Nat} {ls : ix_L} {st : List Value} {hp : ix_H} {res : ix_S ⊕ (Option Value × ix_H)}
noncomputable def fx_iadd (pc : Nat) (ls : ix_L) (st : List Value) (hp : ix_H) : Option (ix_S ⊕ (Option Value × ix_H)) := match st with
  | .int y :: .int x :: r => some (.inl (pc + 1, ls, .int (x + y) :: r, hp))
  | _ => none
theorem fxk_iadd (h : fx_iadd pc ls st hp = some res) : ix_sem T f M (.iadd) pc ls st hp = some res := by
  unfold fx_iadd at h
  repeat' (split at h)
  all_goals first | (cases h; done) | (cases h; rfl)
noncomputable def fx_isub (pc : Nat) (ls : ix_L) (st : List Value) (hp : ix_H) : Option (ix_S ⊕ (Option Value × ix_H)) := match st with
  | .int y :: .int x :: r => some (.inl (pc + 1, ls, .int (x - y) :: r, hp))
  | _ => none
theorem fxk_isub (h : fx_isub pc ls st hp = some res) : ix_sem T f M (.isub) pc ls st hp = some res := by
  unfold fx_isub at h
  repeat' (split at h)
  all_goals first | (cases h; done) | (cases h; rfl)
noncomputable def fx_imul (pc : Nat) (ls : ix_L) (st : List Value) (hp : ix_H) : Option (ix_S ⊕ (Option Value × ix_H)) := match st with
  | .int y :: .int x :: r => some (.inl (pc + 1, ls, .int (x * y) :: r, hp))
  | _ => none
theorem fxk_imul (h : fx_imul pc ls st hp = some res) : ix_sem T f M (.imul) pc ls st hp = some res := by
  unfold fx_imul at h
  repeat' (split at h)
  all_goals first | (cases h; done) | (cases h; rfl)
noncomputable def fx_iand (pc : Nat) (ls : ix_L) (st : List Value) (hp : ix_H) : Option (ix_S ⊕ (Option Value × ix_H)) := match st with
  | .int y :: .int x :: r => some (.inl (pc + 1, ls, .int (x &&& y) :: r, hp))
  | _ => none
theorem fxk_iand (h : fx_iand pc ls st hp = some res) : ix_sem T f M (.iand) pc ls st hp = some res := by
  unfold fx_iand at h
  repeat' (split at h)
  all_goals first | (cases h; done) | (cases h; rfl)
noncomputable def fx_ior (pc : Nat) (ls : ix_L) (st : List Value) (hp : ix_H) : Option (ix_S ⊕ (Option Value × ix_H)) := match st with
  | .int y :: .int x :: r => some (.inl (pc + 1, ls, .int (x ||| y) :: r, hp))
  | _ => none
theorem fxk_ior (h : fx_ior pc ls st hp = some res) : ix_sem T f M (.ior) pc ls st hp = some res := by
  unfold fx_ior at h
  repeat' (split at h)
  all_goals first | (cases h; done) | (cases h; rfl)
noncomputable def fx_ixor (pc : Nat) (ls : ix_L) (st : List Value) (hp : ix_H) : Option (ix_S ⊕ (Option Value × ix_H)) := match st with
  | .int y :: .int x :: r => some (.inl (pc + 1, ls, .int (x ^^^ y) :: r, hp))
  | _ => none
theorem fxk_ixor (h : fx_ixor pc ls st hp = some res) : ix_sem T f M (.ixor) pc ls st hp = some res := by
  unfold fx_ixor at h
  repeat' (split at h)
  all_goals first | (cases h; done) | (cases h; rfl)
noncomputable def fx_ishl (pc : Nat) (ls : ix_L) (st : List Value) (hp : ix_H) : Option (ix_S ⊕ (Option Value × ix_H)) := match st with
  | .int y :: .int x :: r => some (.inl (pc + 1, ls, .int (x <<< (y &&& 31)) :: r, hp))
  | _ => none
theorem fxk_ishl (h : fx_ishl pc ls st hp = some res) : ix_sem T f M (.ishl) pc ls st hp = some res := by
  unfold fx_ishl at h
  repeat' (split at h)
  all_goals first | (cases h; done) | (cases h; rfl)
noncomputable def fx_ishr (pc : Nat) (ls : ix_L) (st : List Value) (hp : ix_H) : Option (ix_S ⊕ (Option Value × ix_H)) := match st with
  | .int y :: .int x :: r => some (.inl (pc + 1, ls, .int (x >>> (y &&& 31)) :: r, hp))
  | _ => none
theorem fxk_ishr (h : fx_ishr pc ls st hp = some res) : ix_sem T f M (.ishr) pc ls st hp = some res := by
  unfold fx_ishr at h
  repeat' (split at h)
  all_goals first | (cases h; done) | (cases h; rfl)
noncomputable def fx_iushr (pc : Nat) (ls : ix_L) (st : List Value) (hp : ix_H) : Option (ix_S ⊕ (Option Value × ix_H)) := match st with
  | .int y :: .int x :: r => some (.inl (pc + 1, ls, .int ((x.toUInt32 >>> (y.toUInt32 &&& Int32.toUInt32 31)).toInt32) :: r, hp))
  | _ => none
theorem fxk_iushr (h : fx_iushr pc ls st hp = some res) : ix_sem T f M (.iushr) pc ls st hp = some res := by
  unfold fx_iushr at h
  repeat' (split at h)
  all_goals first | (cases h; done) | (cases h; rfl)
noncomputable def fx_ladd (pc : Nat) (ls : ix_L) (st : List Value) (hp : ix_H) : Option (ix_S ⊕ (Option Value × ix_H)) := match st with
  | .long y :: .long x :: r => some (.inl (pc + 1, ls, .long (x + y) :: r, hp))
  | _ => none
theorem fxk_ladd (h : fx_ladd pc ls st hp = some res) : ix_sem T f M (.ladd) pc ls st hp = some res := by
  unfold fx_ladd at h
  repeat' (split at h)
  all_goals first | (cases h; done) | (cases h; rfl)
noncomputable def fx_lsub (pc : Nat) (ls : ix_L) (st : List Value) (hp : ix_H) : Option (ix_S ⊕ (Option Value × ix_H)) := match st with
  | .long y :: .long x :: r => some (.inl (pc + 1, ls, .long (x - y) :: r, hp))
  | _ => none
theorem fxk_lsub (h : fx_lsub pc ls st hp = some res) : ix_sem T f M (.lsub) pc ls st hp = some res := by
  unfold fx_lsub at h
  repeat' (split at h)
  all_goals first | (cases h; done) | (cases h; rfl)
noncomputable def fx_lmul (pc : Nat) (ls : ix_L) (st : List Value) (hp : ix_H) : Option (ix_S ⊕ (Option Value × ix_H)) := match st with
  | .long y :: .long x :: r => some (.inl (pc + 1, ls, .long (x * y) :: r, hp))
  | _ => none
theorem fxk_lmul (h : fx_lmul pc ls st hp = some res) : ix_sem T f M (.lmul) pc ls st hp = some res := by
  unfold fx_lmul at h
  repeat' (split at h)
  all_goals first | (cases h; done) | (cases h; rfl)
noncomputable def fx_land (pc : Nat) (ls : ix_L) (st : List Value) (hp : ix_H) : Option (ix_S ⊕ (Option Value × ix_H)) := match st with
  | .long y :: .long x :: r => some (.inl (pc + 1, ls, .long (x &&& y) :: r, hp))
  | _ => none
theorem fxk_land (h : fx_land pc ls st hp = some res) : ix_sem T f M (.land) pc ls st hp = some res := by
  unfold fx_land at h
  repeat' (split at h)
  all_goals first | (cases h; done) | (cases h; rfl)
noncomputable def fx_lor (pc : Nat) (ls : ix_L) (st : List Value) (hp : ix_H) : Option (ix_S ⊕ (Option Value × ix_H)) := match st with
  | .long y :: .long x :: r => some (.inl (pc + 1, ls, .long (x ||| y) :: r, hp))
  | _ => none
theorem fxk_lor (h : fx_lor pc ls st hp = some res) : ix_sem T f M (.lor) pc ls st hp = some res := by
  unfold fx_lor at h
  repeat' (split at h)
  all_goals first | (cases h; done) | (cases h; rfl)
noncomputable def fx_lxor (pc : Nat) (ls : ix_L) (st : List Value) (hp : ix_H) : Option (ix_S ⊕ (Option Value × ix_H)) := match st with
  | .long y :: .long x :: r => some (.inl (pc + 1, ls, .long (x ^^^ y) :: r, hp))
  | _ => none
theorem fxk_lxor (h : fx_lxor pc ls st hp = some res) : ix_sem T f M (.lxor) pc ls st hp = some res := by
  unfold fx_lxor at h
  repeat' (split at h)
  all_goals first | (cases h; done) | (cases h; rfl)
noncomputable def fx_idiv (pc : Nat) (ls : ix_L) (st : List Value) (hp : ix_H) : Option (ix_S ⊕ (Option Value × ix_H)) := match st with
  | .int y :: .int x :: r => if y = 0 then none else some (.inl (pc + 1, ls, .int (x / y) :: r, hp))
  | _ => none
theorem fxk_idiv (h : fx_idiv pc ls st hp = some res) : ix_sem T f M (.idiv) pc ls st hp = some res := by
  unfold fx_idiv at h
  split at h
  · split at h
    · cases h
    · rename_i hy
      cases h
      simp [ix_sem, ix_ret, ix_alu, hy, ix_len]
  · cases h
noncomputable def fx_irem (pc : Nat) (ls : ix_L) (st : List Value) (hp : ix_H) : Option (ix_S ⊕ (Option Value × ix_H)) := match st with
  | .int y :: .int x :: r => if y = 0 then none else some (.inl (pc + 1, ls, .int (x - x / y * y) :: r, hp))
  | _ => none
theorem fxk_irem (h : fx_irem pc ls st hp = some res) : ix_sem T f M (.irem) pc ls st hp = some res := by
  unfold fx_irem at h
  split at h
  · split at h
    · cases h
    · rename_i hy
      cases h
      simp [ix_sem, ix_ret, ix_alu, hy, ix_len]
  · cases h
noncomputable def fx_ldiv (pc : Nat) (ls : ix_L) (st : List Value) (hp : ix_H) : Option (ix_S ⊕ (Option Value × ix_H)) := match st with
  | .long y :: .long x :: r => if y = 0 then none else some (.inl (pc + 1, ls, .long (x / y) :: r, hp))
  | _ => none
theorem fxk_ldiv (h : fx_ldiv pc ls st hp = some res) : ix_sem T f M (.ldiv) pc ls st hp = some res := by
  unfold fx_ldiv at h
  split at h
  · split at h
    · cases h
    · rename_i hy
      cases h
      simp [ix_sem, ix_ret, ix_alu, hy, ix_len]
  · cases h
noncomputable def fx_lrem (pc : Nat) (ls : ix_L) (st : List Value) (hp : ix_H) : Option (ix_S ⊕ (Option Value × ix_H)) := match st with
  | .long y :: .long x :: r => if y = 0 then none else some (.inl (pc + 1, ls, .long (x - x / y * y) :: r, hp))
  | _ => none
theorem fxk_lrem (h : fx_lrem pc ls st hp = some res) : ix_sem T f M (.lrem) pc ls st hp = some res := by
  unfold fx_lrem at h
  split at h
  · split at h
    · cases h
    · rename_i hy
      cases h
      simp [ix_sem, ix_ret, ix_alu, hy, ix_len]
  · cases h
noncomputable def fx_lshl (pc : Nat) (ls : ix_L) (st : List Value) (hp : ix_H) : Option (ix_S ⊕ (Option Value × ix_H)) := match st with
  | .int y :: .long x :: r => some (.inl (pc + 1, ls, .long (x <<< (y.toInt64 &&& 63)) :: r, hp))
  | _ => none
theorem fxk_lshl (h : fx_lshl pc ls st hp = some res) : ix_sem T f M (.lshl) pc ls st hp = some res := by
  unfold fx_lshl at h
  repeat' (split at h)
  all_goals first | (cases h; done) | (cases h; rfl)
noncomputable def fx_lshr (pc : Nat) (ls : ix_L) (st : List Value) (hp : ix_H) : Option (ix_S ⊕ (Option Value × ix_H)) := match st with
  | .int y :: .long x :: r => some (.inl (pc + 1, ls, .long (x >>> (y.toInt64 &&& 63)) :: r, hp))
  | _ => none
theorem fxk_lshr (h : fx_lshr pc ls st hp = some res) : ix_sem T f M (.lshr) pc ls st hp = some res := by
  unfold fx_lshr at h
  repeat' (split at h)
  all_goals first | (cases h; done) | (cases h; rfl)
noncomputable def fx_lushr (pc : Nat) (ls : ix_L) (st : List Value) (hp : ix_H) : Option (ix_S ⊕ (Option Value × ix_H)) := match st with
  | .int y :: .long x :: r => some (.inl (pc + 1, ls, .long ((x.toUInt64 >>> (y.toInt64.toUInt64 &&& Int64.toUInt64 63)).toInt64) :: r, hp))
  | _ => none
theorem fxk_lushr (h : fx_lushr pc ls st hp = some res) : ix_sem T f M (.lushr) pc ls st hp = some res := by
  unfold fx_lushr at h
  repeat' (split at h)
  all_goals first | (cases h; done) | (cases h; rfl)
noncomputable def fx_ineg (pc : Nat) (ls : ix_L) (st : List Value) (hp : ix_H) : Option (ix_S ⊕ (Option Value × ix_H)) := match st with
  | .int x :: r => some (.inl (pc + 1, ls, .int (-x) :: r, hp))
  | _ => none
theorem fxk_ineg (h : fx_ineg pc ls st hp = some res) : ix_sem T f M (.ineg) pc ls st hp = some res := by
  unfold fx_ineg at h
  repeat' (split at h)
  all_goals first | (cases h; done) | (cases h; rfl)
noncomputable def fx_lneg (pc : Nat) (ls : ix_L) (st : List Value) (hp : ix_H) : Option (ix_S ⊕ (Option Value × ix_H)) := match st with
  | .long x :: r => some (.inl (pc + 1, ls, .long (-x) :: r, hp))
  | _ => none
theorem fxk_lneg (h : fx_lneg pc ls st hp = some res) : ix_sem T f M (.lneg) pc ls st hp = some res := by
  unfold fx_lneg at h
  repeat' (split at h)
  all_goals first | (cases h; done) | (cases h; rfl)
noncomputable def fx_i2l (pc : Nat) (ls : ix_L) (st : List Value) (hp : ix_H) : Option (ix_S ⊕ (Option Value × ix_H)) := match st with
  | .int x :: r => some (.inl (pc + 1, ls, .long (x.toInt64) :: r, hp))
  | _ => none
theorem fxk_i2l (h : fx_i2l pc ls st hp = some res) : ix_sem T f M (.i2l) pc ls st hp = some res := by
  unfold fx_i2l at h
  repeat' (split at h)
  all_goals first | (cases h; done) | (cases h; rfl)
noncomputable def fx_l2i (pc : Nat) (ls : ix_L) (st : List Value) (hp : ix_H) : Option (ix_S ⊕ (Option Value × ix_H)) := match st with
  | .long x :: r => some (.inl (pc + 1, ls, .int (x.toInt32) :: r, hp))
  | _ => none
theorem fxk_l2i (h : fx_l2i pc ls st hp = some res) : ix_sem T f M (.l2i) pc ls st hp = some res := by
  unfold fx_l2i at h
  repeat' (split at h)
  all_goals first | (cases h; done) | (cases h; rfl)
noncomputable def fx_i2b (pc : Nat) (ls : ix_L) (st : List Value) (hp : ix_H) : Option (ix_S ⊕ (Option Value × ix_H)) := match st with
  | .int x :: r => some (.inl (pc + 1, ls, .int (x.toInt8.toInt32) :: r, hp))
  | _ => none
theorem fxk_i2b (h : fx_i2b pc ls st hp = some res) : ix_sem T f M (.i2b) pc ls st hp = some res := by
  unfold fx_i2b at h
  repeat' (split at h)
  all_goals first | (cases h; done) | (cases h; rfl)
noncomputable def fx_i2s (pc : Nat) (ls : ix_L) (st : List Value) (hp : ix_H) : Option (ix_S ⊕ (Option Value × ix_H)) := match st with
  | .int x :: r => some (.inl (pc + 1, ls, .int (x.toInt16.toInt32) :: r, hp))
  | _ => none
theorem fxk_i2s (h : fx_i2s pc ls st hp = some res) : ix_sem T f M (.i2s) pc ls st hp = some res := by
  unfold fx_i2s at h
  repeat' (split at h)
  all_goals first | (cases h; done) | (cases h; rfl)
noncomputable def fx_i2c (pc : Nat) (ls : ix_L) (st : List Value) (hp : ix_H) : Option (ix_S ⊕ (Option Value × ix_H)) := match st with
  | .int x :: r => some (.inl (pc + 1, ls, .int ((x.toUInt32 % 65536).toInt32) :: r, hp))
  | _ => none
theorem fxk_i2c (h : fx_i2c pc ls st hp = some res) : ix_sem T f M (.i2c) pc ls st hp = some res := by
  unfold fx_i2c at h
  repeat' (split at h)
  all_goals first | (cases h; done) | (cases h; rfl)
noncomputable def fx_lcmp (pc : Nat) (ls : ix_L) (st : List Value) (hp : ix_H) : Option (ix_S ⊕ (Option Value × ix_H)) := match st with
  | .long y :: .long x :: r => some (.inl (pc + 1, ls, .int (lg_cmp x y) :: r, hp))
  | _ => none
theorem fxk_lcmp (h : fx_lcmp pc ls st hp = some res) : ix_sem T f M (.lcmp) pc ls st hp = some res := by
  unfold fx_lcmp at h
  repeat' (split at h)
  all_goals first | (cases h; done) | (cases h; rfl)
noncomputable def fx_dup (pc : Nat) (ls : ix_L) (st : List Value) (hp : ix_H) : Option (ix_S ⊕ (Option Value × ix_H)) := match st with
  | a :: r => if a.category = 1 then some (.inl (pc + 1, ls, a :: a :: r, hp)) else none
  | _ => none
theorem fxk_dup (h : fx_dup pc ls st hp = some res) : ix_sem T f M (.dup) pc ls st hp = some res := by
  unfold fx_dup at h
  split at h
  · split at h
    · rename_i ha
      cases h
      simp [ix_sem, ix_ret, ix_alu, ha, ix_len]
    · cases h
  · cases h
noncomputable def fx_pop (pc : Nat) (ls : ix_L) (st : List Value) (hp : ix_H) : Option (ix_S ⊕ (Option Value × ix_H)) := match st with
  | a :: r => if a.category = 1 then some (.inl (pc + 1, ls, r, hp)) else none
  | _ => none
theorem fxk_pop (h : fx_pop pc ls st hp = some res) : ix_sem T f M (.pop) pc ls st hp = some res := by
  unfold fx_pop at h
  split at h
  · split at h
    · rename_i ha
      cases h
      simp [ix_sem, ix_ret, ix_alu, ha, ix_len]
    · cases h
  · cases h
noncomputable def fx_dup2 (pc : Nat) (ls : ix_L) (st : List Value) (hp : ix_H) : Option (ix_S ⊕ (Option Value × ix_H)) := match st with
  | a :: b :: r => if a.category = 1 ∧ b.category = 1 then some (.inl (pc + 1, ls, a :: b :: a :: b :: r, hp)) else none
  | _ => none
theorem fxk_dup2 (h : fx_dup2 pc ls st hp = some res) : ix_sem T f M (.dup2) pc ls st hp = some res := by
  unfold fx_dup2 at h
  split at h
  · split at h
    · rename_i ha
      cases h
      simp [ix_sem, ix_ret, ix_alu, ha, ix_len]
    · cases h
  · cases h
noncomputable def fx_iconst (v : Int) (pc : Nat) (ls : ix_L) (st : List Value) (hp : ix_H) : Option (ix_S ⊕ (Option Value × ix_H)) := some (.inl (pc + 1, ls, .int (Int32.ofInt v) :: st, hp))
theorem fxk_iconst {v : Int} (h : fx_iconst v pc ls st hp = some res) : ix_sem T f M (.iconst v) pc ls st hp = some res := by
  cases h
  rfl
noncomputable def fx_bipush (v : Int) (pc : Nat) (ls : ix_L) (st : List Value) (hp : ix_H) : Option (ix_S ⊕ (Option Value × ix_H)) := some (.inl (pc + 2, ls, .int ((Int8.ofInt v).toInt32) :: st, hp))
theorem fxk_bipush {v : Int} (h : fx_bipush v pc ls st hp = some res) : ix_sem T f M (.bipush v) pc ls st hp = some res := by
  cases h
  rfl
noncomputable def fx_sipush (v : Int) (pc : Nat) (ls : ix_L) (st : List Value) (hp : ix_H) : Option (ix_S ⊕ (Option Value × ix_H)) := some (.inl (pc + 3, ls, .int ((Int16.ofInt v).toInt32) :: st, hp))
theorem fxk_sipush {v : Int} (h : fx_sipush v pc ls st hp = some res) : ix_sem T f M (.sipush v) pc ls st hp = some res := by
  cases h
  rfl
noncomputable def fx_lconst (v : Fin 2) (pc : Nat) (ls : ix_L) (st : List Value) (hp : ix_H) : Option (ix_S ⊕ (Option Value × ix_H)) := some (.inl (pc + 1, ls, .long (Int64.ofNat (v : Nat)) :: st, hp))
theorem fxk_lconst {v : Fin 2} (h : fx_lconst v pc ls st hp = some res) : ix_sem T f M (.lconst v) pc ls st hp = some res := by
  cases h
  rfl
noncomputable def fx_iload (k len : Nat) (pc : Nat) (ls : ix_L) (st : List Value) (hp : ix_H) : Option (ix_S ⊕ (Option Value × ix_H)) := match ix_ld ls k with
  | some (.int x) => some (.inl (pc + len, ls, .int x :: st, hp))
  | _ => none
theorem fxk_iload {k : Nat} (h : fx_iload k 2 pc ls st hp = some res) : ix_sem T f M (.iload k) pc ls st hp = some res := by
  unfold fx_iload at h
  split at h
  · rename_i hx
    cases h
    simp [ix_sem, ix_ret, ix_alu, ix_loc, hx, ix_len]
  · cases h
theorem fxk_iload_n {k : Fin 4} (h : fx_iload k.val 1 pc ls st hp = some res) : ix_sem T f M (.iload_n k) pc ls st hp = some res := by
  unfold fx_iload at h
  split at h
  · rename_i hx
    cases h
    simp [ix_sem, ix_ret, ix_alu, ix_loc, hx, ix_len]
  · cases h
noncomputable def fx_istore (k len nL : Nat) (pc : Nat) (ls : ix_L) (st : List Value) (hp : ix_H) : Option (ix_S ⊕ (Option Value × ix_H)) := match st with
  | .int x :: r => if k < nL then some (.inl (pc + len, ix_st1 ls k (.int x), r, hp)) else none
  | _ => none
theorem fxk_istore {k : Nat} (h : fx_istore k 2 M.2.2.2.1 pc ls st hp = some res) : ix_sem T f M (.istore k) pc ls st hp = some res := by
  unfold fx_istore at h
  split at h
  · split at h
    · rename_i hx
      cases h
      simp [ix_sem, ix_ret, ix_alu, ix_loc, hx, ix_len]
    · cases h
  · cases h
theorem fxk_istore_n {k : Fin 4} (h : fx_istore k.val 1 M.2.2.2.1 pc ls st hp = some res) : ix_sem T f M (.istore_n k) pc ls st hp = some res := by
  unfold fx_istore at h
  split at h
  · split at h
    · rename_i hx
      cases h
      simp [ix_sem, ix_ret, ix_alu, ix_loc, hx, ix_len]
    · cases h
  · cases h
noncomputable def fx_lload (k len : Nat) (pc : Nat) (ls : ix_L) (st : List Value) (hp : ix_H) : Option (ix_S ⊕ (Option Value × ix_H)) := match ix_ld ls k with
  | some (.long x) => some (.inl (pc + len, ls, .long x :: st, hp))
  | _ => none
theorem fxk_lload {k : Nat} (h : fx_lload k 2 pc ls st hp = some res) : ix_sem T f M (.lload k) pc ls st hp = some res := by
  unfold fx_lload at h
  split at h
  · rename_i hx
    cases h
    simp [ix_sem, ix_ret, ix_alu, ix_loc, hx, ix_len]
  · cases h
theorem fxk_lload_n {k : Fin 4} (h : fx_lload k.val 1 pc ls st hp = some res) : ix_sem T f M (.lload_n k) pc ls st hp = some res := by
  unfold fx_lload at h
  split at h
  · rename_i hx
    cases h
    simp [ix_sem, ix_ret, ix_alu, ix_loc, hx, ix_len]
  · cases h
noncomputable def fx_lstore (k len nL : Nat) (pc : Nat) (ls : ix_L) (st : List Value) (hp : ix_H) : Option (ix_S ⊕ (Option Value × ix_H)) := match st with
  | .long x :: r => if k + 1 < nL then some (.inl (pc + len, ix_st2 ls k (.long x), r, hp)) else none
  | _ => none
theorem fxk_lstore {k : Nat} (h : fx_lstore k 2 M.2.2.2.1 pc ls st hp = some res) : ix_sem T f M (.lstore k) pc ls st hp = some res := by
  unfold fx_lstore at h
  split at h
  · split at h
    · rename_i hx
      cases h
      simp [ix_sem, ix_ret, ix_alu, ix_loc, hx, ix_len]
    · cases h
  · cases h
theorem fxk_lstore_n {k : Fin 4} (h : fx_lstore k.val 1 M.2.2.2.1 pc ls st hp = some res) : ix_sem T f M (.lstore_n k) pc ls st hp = some res := by
  unfold fx_lstore at h
  split at h
  · split at h
    · rename_i hx
      cases h
      simp [ix_sem, ix_ret, ix_alu, ix_loc, hx, ix_len]
    · cases h
  · cases h
noncomputable def fx_aload (k len : Nat) (pc : Nat) (ls : ix_L) (st : List Value) (hp : ix_H) : Option (ix_S ⊕ (Option Value × ix_H)) := match ix_ld ls k with
  | some (.ref x) => some (.inl (pc + len, ls, .ref x :: st, hp))
  | _ => none
theorem fxk_aload {k : Nat} (h : fx_aload k 2 pc ls st hp = some res) : ix_sem T f M (.aload k) pc ls st hp = some res := by
  unfold fx_aload at h
  split at h
  · rename_i hx
    cases h
    simp [ix_sem, ix_ret, ix_alu, ix_loc, hx, ix_len]
  · cases h
theorem fxk_aload_n {k : Fin 4} (h : fx_aload k.val 1 pc ls st hp = some res) : ix_sem T f M (.aload_n k) pc ls st hp = some res := by
  unfold fx_aload at h
  split at h
  · rename_i hx
    cases h
    simp [ix_sem, ix_ret, ix_alu, ix_loc, hx, ix_len]
  · cases h
noncomputable def fx_astore (k len nL : Nat) (pc : Nat) (ls : ix_L) (st : List Value) (hp : ix_H) : Option (ix_S ⊕ (Option Value × ix_H)) := match st with
  | .ref x :: r => if k < nL then some (.inl (pc + len, ix_st1 ls k (.ref x), r, hp)) else none
  | _ => none
theorem fxk_astore {k : Nat} (h : fx_astore k 2 M.2.2.2.1 pc ls st hp = some res) : ix_sem T f M (.astore k) pc ls st hp = some res := by
  unfold fx_astore at h
  split at h
  · split at h
    · rename_i hx
      cases h
      simp [ix_sem, ix_ret, ix_alu, ix_loc, hx, ix_len]
    · cases h
  · cases h
theorem fxk_astore_n {k : Fin 4} (h : fx_astore k.val 1 M.2.2.2.1 pc ls st hp = some res) : ix_sem T f M (.astore_n k) pc ls st hp = some res := by
  unfold fx_astore at h
  split at h
  · split at h
    · rename_i hx
      cases h
      simp [ix_sem, ix_ret, ix_alu, ix_loc, hx, ix_len]
    · cases h
  · cases h
noncomputable def fx_iinc (k : Nat) (v : Int) (nL : Nat) (pc : Nat) (ls : ix_L) (st : List Value) (hp : ix_H) : Option (ix_S ⊕ (Option Value × ix_H)) := match ix_ld ls k with
  | some (.int x) => if k < nL then some (.inl (pc + 3, ix_st1 ls k (.int (x + Int32.ofInt v)), st, hp)) else none
  | _ => none
theorem fxk_iinc {k : Nat} {v : Int} (h : fx_iinc k v M.2.2.2.1 pc ls st hp = some res) : ix_sem T f M (.iinc k v) pc ls st hp = some res := by
  unfold fx_iinc at h
  split at h
  · rename_i hx
    split at h
    · rename_i hk
      cases h
      simp [ix_sem, ix_ret, ix_alu, ix_loc, hx, hk, ix_len]
    · cases h
  · cases h
noncomputable def fx_goto (off : Int) (pc : Nat) (ls : ix_L) (st : List Value) (hp : ix_H) : Option (ix_S ⊕ (Option Value × ix_H)) := match ix_tg pc off with
  | some t => some (.inl (t, ls, st, hp))
  | none => none
theorem fxk_goto {off : Int} (h : fx_goto off pc ls st hp = some res) : ix_sem T f M (.goto off) pc ls st hp = some res := by
  unfold fx_goto at h
  split at h
  · rename_i hx
    cases h
    simp [ix_sem, ix_ret, ix_alu, ix_loc, ix_hp, ix_br, hx]
  · cases h
noncomputable def fx_if (cd : Jvm.ClassFile.Cond) (off : Int) (pc : Nat) (ls : ix_L) (st : List Value) (hp : ix_H) : Option (ix_S ⊕ (Option Value × ix_H)) := match st with
  | .int x :: r => (match ix_tg pc off with
    | some t => bif ix_cb cd x 0 then some (.inl (t, ls, r, hp)) else some (.inl (pc + 3, ls, r, hp))
    | none => none)
  | _ => none
theorem fxk_if {cd : Jvm.ClassFile.Cond} {off : Int} (h : fx_if cd off pc ls st hp = some res) : ix_sem T f M (.ifCond cd off) pc ls st hp = some res := by
  unfold fx_if at h
  split at h
  · rename_i x r
    split at h
    · rename_i hx
      cases hc : ix_cb cd x 0 <;> (rw [hc] at h; cases h; simp [ix_sem, ix_ret, ix_alu, ix_loc, ix_hp, ix_br, hx, hc])
    · cases h
  · cases h
noncomputable def fx_icmp (cd : Jvm.ClassFile.Cond) (off : Int) (pc : Nat) (ls : ix_L) (st : List Value) (hp : ix_H) : Option (ix_S ⊕ (Option Value × ix_H)) := match st with
  | .int y :: .int x :: r => (match ix_tg pc off with
    | some t => bif ix_cb cd x y then some (.inl (t, ls, r, hp)) else some (.inl (pc + 3, ls, r, hp))
    | none => none)
  | _ => none
theorem fxk_icmp {cd : Jvm.ClassFile.Cond} {off : Int} (h : fx_icmp cd off pc ls st hp = some res) : ix_sem T f M (.if_icmp cd off) pc ls st hp = some res := by
  unfold fx_icmp at h
  split at h
  · rename_i y x r
    split at h
    · rename_i hx
      cases hc : ix_cb cd x y <;> (rw [hc] at h; cases h; simp [ix_sem, ix_ret, ix_alu, ix_loc, ix_hp, ix_br, hx, hc])
    · cases h
  · cases h
noncomputable def fx_tsw (dflt lo hi : Int) (offs : Array Int) (pc : Nat) (ls : ix_L) (st : List Value) (hp : ix_H) : Option (ix_S ⊕ (Option Value × ix_H)) := match st with
  | .int x :: r => if x.toInt < lo ∨ hi < x.toInt then (match ix_tg pc dflt with
    | some t => some (.inl (t, ls, r, hp))
    | none => none) else (match offs[(x.toInt - lo).toNat]? with
    | some off => (match ix_tg pc off with
      | some t => some (.inl (t, ls, r, hp))
      | none => none)
    | none => none)
  | _ => none
theorem fxk_tsw {dflt lo hi : Int} {offs : Array Int} (h : fx_tsw dflt lo hi offs pc ls st hp = some res) : ix_sem T f M (.tableswitch dflt lo hi offs) pc ls st hp = some res := by
  unfold fx_tsw at h
  split at h
  · split at h
    · rename_i hc
      split at h
      · rename_i ht
        cases h
        simp [ix_sem, ix_ret, ix_alu, ix_loc, ix_hp, ix_br, hc, ht]
      · cases h
    · rename_i hc
      split at h
      · rename_i off ho
        split at h
        · rename_i ht
          cases h
          simp [ix_sem, ix_ret, ix_alu, ix_loc, ix_hp, ix_br, hc, ht, ho]
        · cases h
      · cases h
  · cases h
noncomputable def fx_getfield (T : ix_T) (oc : Nat) (ini : Bool) (idx : Nat) (pc : Nat) (ls : ix_L) (st : List Value) (hp : ix_H) : Option (ix_S ⊕ (Option Value × ix_H)) := match st with
  | .ref a :: r => (match ix_tF T oc idx, ix_obj hp a with
    | some (ci, j), some (c, fs) => if c = ci then (match fs[j]? with
      | some v => some (.inl (pc + 3, ls, v :: r, hp))
      | none => none) else none
    | _, _ => none)
  | _ => none
theorem fxk_getfield {idx : Nat} (h : fx_getfield T M.1 M.2.2.2.2.2.1 idx pc ls st hp = some res) : ix_sem T f M (.getfield idx) pc ls st hp = some res := by
  unfold fx_getfield at h
  repeat' (split at h)
  all_goals first | (cases h; done) | (rename_i h1 h2; cases h; simp [ix_sem, ix_ret, ix_alu, ix_loc, ix_hp, ix_len, h1, if_neg h2]; done) | (rename_i h0 _ _ _ h1 h2; cases h; simp [ix_sem, ix_ret, ix_alu, ix_loc, ix_hp, ix_len, h0, h1, if_neg h2]; done) | (cases h; simp_all [ix_sem, ix_ret, ix_alu, ix_loc, ix_hp, ix_len]; done)
noncomputable def fx_putfield (T : ix_T) (oc : Nat) (ini : Bool) (idx : Nat) (pc : Nat) (ls : ix_L) (st : List Value) (hp : ix_H) : Option (ix_S ⊕ (Option Value × ix_H)) := match st with
  | v :: .ref a :: r => (match ix_tF T oc idx, ix_obj hp a with
    | some (ci, j), some (c, fs) => if c = ci ∧ j < fs.length ∧ narrow ((ix_tD T ci).2 j).1 v = v ∧ fits ((ix_tD T ci).2 j).1 v = true ∧ (((ix_tD T ci).2 j).2 = false ∨ (ini = true ∧ ci = oc)) then some (.inl (pc + 3, ls, r, ix_put hp a (.inr (c, fs.set j v)))) else none
    | _, _ => none)
  | _ => none
theorem fxk_putfield {idx : Nat} (h : fx_putfield T M.1 M.2.2.2.2.2.1 idx pc ls st hp = some res) : ix_sem T f M (.putfield idx) pc ls st hp = some res := by
  unfold fx_putfield at h
  repeat' (split at h)
  all_goals first | (cases h; done) | (rename_i h1 h2; cases h; simp [ix_sem, ix_ret, ix_alu, ix_loc, ix_hp, ix_len, h1, if_neg h2]; done) | (rename_i h0 _ _ _ h1 h2; cases h; simp [ix_sem, ix_ret, ix_alu, ix_loc, ix_hp, ix_len, h0, h1, if_neg h2]; done) | (cases h; simp_all [ix_sem, ix_ret, ix_alu, ix_loc, ix_hp, ix_len]; done)
noncomputable def fx_arraylength (T : ix_T) (oc : Nat) (ini : Bool)  (pc : Nat) (ls : ix_L) (st : List Value) (hp : ix_H) : Option (ix_S ⊕ (Option Value × ix_H)) := match st with
  | .ref a :: r => (match ix_arr hp a with
    | some (t, n, _) => if t < 3 ∨ (ix_tE T t).isSome = true then some (.inl (pc + 1, ls, .int (Int32.ofNat n) :: r, hp)) else none
    | none => match ix_cns T a with
      | some (n, _) => some (.inl (pc + 1, ls, .int (Int32.ofNat n) :: r, hp))
      | none => none)
  | _ => none
theorem fxk_arraylength  (h : fx_arraylength T M.1 M.2.2.2.2.2.1  pc ls st hp = some res) : ix_sem T f M (.arraylength) pc ls st hp = some res := by
  unfold fx_arraylength at h
  repeat' (split at h)
  all_goals first | (cases h; done) | (rename_i h1 h2; cases h; simp [ix_sem, ix_ret, ix_alu, ix_loc, ix_hp, ix_len, h1, if_neg h2]; done) | (rename_i h0 _ _ _ h1 h2; cases h; simp [ix_sem, ix_ret, ix_alu, ix_loc, ix_hp, ix_len, h0, h1, if_neg h2]; done) | (cases h; simp_all [ix_sem, ix_ret, ix_alu, ix_loc, ix_hp, ix_len]; done)
noncomputable def fx_iaload (T : ix_T) (oc : Nat) (ini : Bool)  (pc : Nat) (ls : ix_L) (st : List Value) (hp : ix_H) : Option (ix_S ⊕ (Option Value × ix_H)) := match st with
  | .int i :: .ref a :: r => (match ix_arr hp a with
    | some (0, n, .inl f) => if i < 0 ∨ n ≤ i.toNatClampNeg then none else some (.inl (pc + 1, ls, .int (f i.toNatClampNeg) :: r, hp))
    | some _ => none
    | none => match ix_cns T a with
      | some (n, f) => if i < 0 ∨ n ≤ i.toNatClampNeg then none else some (.inl (pc + 1, ls, .int (f i.toNatClampNeg) :: r, hp))
      | none => none)
  | _ => none
theorem fxk_iaload  (h : fx_iaload T M.1 M.2.2.2.2.2.1  pc ls st hp = some res) : ix_sem T f M (.iaload) pc ls st hp = some res := by
  unfold fx_iaload at h
  repeat' (split at h)
  all_goals first | (cases h; done) | (rename_i h1 h2; cases h; simp [ix_sem, ix_ret, ix_alu, ix_loc, ix_hp, ix_len, h1, if_neg h2]; done) | (rename_i h0 _ _ _ h1 h2; cases h; simp [ix_sem, ix_ret, ix_alu, ix_loc, ix_hp, ix_len, h0, h1, if_neg h2]; done) | (cases h; simp_all [ix_sem, ix_ret, ix_alu, ix_loc, ix_hp, ix_len]; done)
noncomputable def fx_getstatic (T : ix_T) (oc : Nat) (_ : Bool) (idx : Nat) (pc : Nat) (ls : ix_L) (st : List Value) (hp : ix_H) : Option (ix_S ⊕ (Option Value × ix_H)) := match ix_tS T oc idx with
  | some v => some (.inl (pc + 3, ls, v :: st, hp))
  | none => none
theorem fxk_getstatic {idx : Nat} (h : fx_getstatic T M.1 M.2.2.2.2.2.1 idx pc ls st hp = some res) : ix_sem T f M (.getstatic idx) pc ls st hp = some res := by
  unfold fx_getstatic at h
  repeat' (split at h)
  all_goals first | (cases h; done) | (rename_i h1 h2; cases h; simp [ix_sem, ix_ret, ix_alu, ix_loc, ix_hp, ix_len, h1, if_neg h2]; done) | (rename_i h0 _ _ _ h1 h2; cases h; simp [ix_sem, ix_ret, ix_alu, ix_loc, ix_hp, ix_len, h0, h1, if_neg h2]; done) | (cases h; simp_all [ix_sem, ix_ret, ix_alu, ix_loc, ix_hp, ix_len]; done)
noncomputable def fx_laload (T : ix_T) (oc : Nat) (ini : Bool)  (pc : Nat) (ls : ix_L) (st : List Value) (hp : ix_H) : Option (ix_S ⊕ (Option Value × ix_H)) := match st with
  | .int i :: .ref a :: r => (match ix_arr hp a with
    | some (1, n, .inr (.inl f)) => if i < 0 ∨ n ≤ i.toNatClampNeg then none else some (.inl (pc + 1, ls, .long (f i.toNatClampNeg) :: r, hp))
    | _ => none)
  | _ => none
theorem fxk_laload  (h : fx_laload T M.1 M.2.2.2.2.2.1  pc ls st hp = some res) : ix_sem T f M (.laload) pc ls st hp = some res := by
  unfold fx_laload at h
  repeat' (split at h)
  all_goals first | (cases h; done) | (rename_i h1 h2; cases h; simp [ix_sem, ix_ret, ix_alu, ix_loc, ix_hp, ix_len, h1, if_neg h2]; done) | (rename_i h0 _ _ _ h1 h2; cases h; simp [ix_sem, ix_ret, ix_alu, ix_loc, ix_hp, ix_len, h0, h1, if_neg h2]; done) | (cases h; simp_all [ix_sem, ix_ret, ix_alu, ix_loc, ix_hp, ix_len]; done)
noncomputable def fx_baload (T : ix_T) (oc : Nat) (ini : Bool)  (pc : Nat) (ls : ix_L) (st : List Value) (hp : ix_H) : Option (ix_S ⊕ (Option Value × ix_H)) := match st with
  | .int i :: .ref a :: r => (match ix_arr hp a with
    | some (2, n, .inl f) => if i < 0 ∨ n ≤ i.toNatClampNeg then none else some (.inl (pc + 1, ls, .int (f i.toNatClampNeg) :: r, hp))
    | _ => none)
  | _ => none
theorem fxk_baload  (h : fx_baload T M.1 M.2.2.2.2.2.1  pc ls st hp = some res) : ix_sem T f M (.baload) pc ls st hp = some res := by
  unfold fx_baload at h
  repeat' (split at h)
  all_goals first | (cases h; done) | (rename_i h1 h2; cases h; simp [ix_sem, ix_ret, ix_alu, ix_loc, ix_hp, ix_len, h1, if_neg h2]; done) | (rename_i h0 _ _ _ h1 h2; cases h; simp [ix_sem, ix_ret, ix_alu, ix_loc, ix_hp, ix_len, h0, h1, if_neg h2]; done) | (cases h; simp_all [ix_sem, ix_ret, ix_alu, ix_loc, ix_hp, ix_len]; done)
noncomputable def fx_aaload (T : ix_T) (oc : Nat) (ini : Bool)  (pc : Nat) (ls : ix_L) (st : List Value) (hp : ix_H) : Option (ix_S ⊕ (Option Value × ix_H)) := match st with
  | .int i :: .ref a :: r => (match ix_arr hp a with
    | some (t, n, .inr (.inr (.inr (.inr f)))) => if (ix_tE T t).isSome = true ∧ ¬ (i < 0 ∨ n ≤ i.toNatClampNeg) then some (.inl (pc + 1, ls, va_rf (f i.toNatClampNeg) :: r, hp)) else none
    | _ => none)
  | _ => none
theorem fxk_aaload  (h : fx_aaload T M.1 M.2.2.2.2.2.1  pc ls st hp = some res) : ix_sem T f M (.aaload) pc ls st hp = some res := by
  unfold fx_aaload at h
  repeat' (split at h)
  all_goals first | (cases h; done) | (rename_i h1 h2; cases h; simp [ix_sem, ix_ret, ix_alu, ix_loc, ix_hp, ix_len, h1, if_neg h2]; done) | (rename_i h0 _ _ _ h1 h2; cases h; simp [ix_sem, ix_ret, ix_alu, ix_loc, ix_hp, ix_len, h0, h1, if_neg h2]; done) | (cases h; simp_all [ix_sem, ix_ret, ix_alu, ix_loc, ix_hp, ix_len]; done)
noncomputable def fx_iastore (T : ix_T) (oc : Nat) (ini : Bool)  (pc : Nat) (ls : ix_L) (st : List Value) (hp : ix_H) : Option (ix_S ⊕ (Option Value × ix_H)) := match st with
  | .int x :: .int i :: .ref a :: r => (match ix_arr hp a with
    | some (0, n, .inl f) => if i < 0 ∨ n ≤ i.toNatClampNeg then none else some (.inl (pc + 1, ls, r, ix_put hp a (.inl (0, n, .inl (upd f i.toNatClampNeg x)))))
    | _ => none)
  | _ => none
theorem fxk_iastore  (h : fx_iastore T M.1 M.2.2.2.2.2.1  pc ls st hp = some res) : ix_sem T f M (.iastore) pc ls st hp = some res := by
  unfold fx_iastore at h
  repeat' (split at h)
  all_goals first | (cases h; done) | (rename_i h1 h2; cases h; simp [ix_sem, ix_ret, ix_alu, ix_loc, ix_hp, ix_len, h1, if_neg h2]; done) | (rename_i h0 _ _ _ h1 h2; cases h; simp [ix_sem, ix_ret, ix_alu, ix_loc, ix_hp, ix_len, h0, h1, if_neg h2]; done) | (cases h; simp_all [ix_sem, ix_ret, ix_alu, ix_loc, ix_hp, ix_len]; done)
noncomputable def fx_lastore (T : ix_T) (oc : Nat) (ini : Bool)  (pc : Nat) (ls : ix_L) (st : List Value) (hp : ix_H) : Option (ix_S ⊕ (Option Value × ix_H)) := match st with
  | .long x :: .int i :: .ref a :: r => (match ix_arr hp a with
    | some (1, n, .inr (.inl f)) => if i < 0 ∨ n ≤ i.toNatClampNeg then none else some (.inl (pc + 1, ls, r, ix_put hp a (.inl (1, n, .inr (.inl (vp_updL f i.toNatClampNeg x))))))
    | _ => none)
  | _ => none
theorem fxk_lastore  (h : fx_lastore T M.1 M.2.2.2.2.2.1  pc ls st hp = some res) : ix_sem T f M (.lastore) pc ls st hp = some res := by
  unfold fx_lastore at h
  repeat' (split at h)
  all_goals first | (cases h; done) | (rename_i h1 h2; cases h; simp [ix_sem, ix_ret, ix_alu, ix_loc, ix_hp, ix_len, h1, if_neg h2]; done) | (rename_i h0 _ _ _ h1 h2; cases h; simp [ix_sem, ix_ret, ix_alu, ix_loc, ix_hp, ix_len, h0, h1, if_neg h2]; done) | (cases h; simp_all [ix_sem, ix_ret, ix_alu, ix_loc, ix_hp, ix_len]; done)
noncomputable def fx_bastore (T : ix_T) (oc : Nat) (ini : Bool)  (pc : Nat) (ls : ix_L) (st : List Value) (hp : ix_H) : Option (ix_S ⊕ (Option Value × ix_H)) := match st with
  | .int x :: .int i :: .ref a :: r => (match ix_arr hp a with
    | some (2, n, .inl f) => if i < 0 ∨ n ≤ i.toNatClampNeg then none else some (.inl (pc + 1, ls, r, ix_put hp a (.inl (2, n, .inl (upd f i.toNatClampNeg (vp_nar .boolean x))))))
    | _ => none)
  | _ => none
theorem fxk_bastore  (h : fx_bastore T M.1 M.2.2.2.2.2.1  pc ls st hp = some res) : ix_sem T f M (.bastore) pc ls st hp = some res := by
  unfold fx_bastore at h
  repeat' (split at h)
  all_goals first | (cases h; done) | (rename_i h1 h2; cases h; simp [ix_sem, ix_ret, ix_alu, ix_loc, ix_hp, ix_len, h1, if_neg h2]; done) | (rename_i h0 _ _ _ h1 h2; cases h; simp [ix_sem, ix_ret, ix_alu, ix_loc, ix_hp, ix_len, h0, h1, if_neg h2]; done) | (cases h; simp_all [ix_sem, ix_ret, ix_alu, ix_loc, ix_hp, ix_len]; done)
noncomputable def fx_aastore (T : ix_T) (oc : Nat) (ini : Bool)  (pc : Nat) (ls : ix_L) (st : List Value) (hp : ix_H) : Option (ix_S ⊕ (Option Value × ix_H)) := match st with
  | .ref v :: .int i :: .ref a :: r => (match ix_arr hp a, ix_obj hp v with
    | some (t, n, .inr (.inr (.inr (.inr f)))), some (c, _) => if ix_tE T t = some c ∧ ¬ (i < 0 ∨ n ≤ i.toNatClampNeg) then some (.inl (pc + 1, ls, r, ix_put hp a (.inl (t, n, .inr (.inr (.inr (.inr (va_up f i.toNatClampNeg (some v))))))))) else none
    | _, _ => none)
  | _ => none
theorem fxk_aastore  (h : fx_aastore T M.1 M.2.2.2.2.2.1  pc ls st hp = some res) : ix_sem T f M (.aastore) pc ls st hp = some res := by
  unfold fx_aastore at h
  repeat' (split at h)
  all_goals first | (cases h; done) | (rename_i h1 h2; cases h; simp [ix_sem, ix_ret, ix_alu, ix_loc, ix_hp, ix_len, h1, if_neg h2]; done) | (rename_i h0 _ _ _ h1 h2; cases h; simp [ix_sem, ix_ret, ix_alu, ix_loc, ix_hp, ix_len, h0, h1, if_neg h2]; done) | (cases h; simp_all [ix_sem, ix_ret, ix_alu, ix_loc, ix_hp, ix_len]; done)
noncomputable def fx_new (T : ix_T) (oc : Nat) (_ : Bool) (idx : Nat) (pc : Nat) (ls : ix_L) (st : List Value) (hp : ix_H) : Option (ix_S ⊕ (Option Value × ix_H)) := match ix_tC T oc idx with
  | some (ci, _) => if hp.1 < 1000000 then some (.inl (pc + 3, ls, .ref hp.1 :: st, ix_new hp (ix_tD T ci).1 (.inr (ci, (List.range (ix_tD T ci).1).map (fun j => defaultValue ((ix_tD T ci).2 j).1))))) else none
  | _ => none
theorem fxk_new {idx : Nat} (h : fx_new T M.1 M.2.2.2.2.2.1 idx pc ls st hp = some res) : ix_sem T f M (.new idx) pc ls st hp = some res := by
  unfold fx_new at h
  repeat' (split at h)
  all_goals first | (cases h; done) | (cases h; simp_all [ix_sem, ix_ret, ix_alu, ix_loc, ix_hp, ix_len]; done)
noncomputable def fx_newarray (T : ix_T) (oc : Nat) (_ : Bool) (aty : ArrayType) (pc : Nat) (ls : ix_L) (st : List Value) (hp : ix_H) : Option (ix_S ⊕ (Option Value × ix_H)) := match st with
  | .int n :: r => (match ix_zero (ix_aty aty) n.toNatClampNeg with
    | some x => if ¬ n < 0 ∧ n.toNatClampNeg ≤ 1000000 ∧ hp.1 < 1000000 then some (.inl (pc + 2, ls, .ref hp.1 :: r, ix_new hp n.toNatClampNeg (.inl x))) else none
    | none => none)
  | _ => none
theorem fxk_newarray {aty : ArrayType} (h : fx_newarray T M.1 M.2.2.2.2.2.1 aty pc ls st hp = some res) : ix_sem T f M (.newarray aty) pc ls st hp = some res := by
  unfold fx_newarray at h
  repeat' (split at h)
  all_goals first | (cases h; done) | (cases h; simp_all [ix_sem, ix_ret, ix_alu, ix_loc, ix_hp, ix_len]; done)
noncomputable def fx_anewarray (T : ix_T) (oc : Nat) (_ : Bool) (idx : Nat) (pc : Nat) (ls : ix_L) (st : List Value) (hp : ix_H) : Option (ix_S ⊕ (Option Value × ix_H)) := match st with
  | .int n :: r => (match ix_tC T oc idx with
    | some (_, t) => if ¬ n < 0 ∧ n.toNatClampNeg ≤ 1000000 ∧ hp.1 < 1000000 ∧ ¬ t = 0 then some (.inl (pc + 3, ls, .ref hp.1 :: r, ix_new hp n.toNatClampNeg (.inl (t, n.toNatClampNeg, .inr (.inr (.inr (.inr (fun _ => none)))))))) else none
    | _ => none)
  | _ => none
theorem fxk_anewarray {idx : Nat} (h : fx_anewarray T M.1 M.2.2.2.2.2.1 idx pc ls st hp = some res) : ix_sem T f M (.anewarray idx) pc ls st hp = some res := by
  unfold fx_anewarray at h
  repeat' (split at h)
  all_goals first | (cases h; done) | (cases h; simp_all [ix_sem, ix_ret, ix_alu, ix_loc, ix_hp, ix_len]; done)
noncomputable def fx_ldc (T : ix_T) (oc : Nat) (_ : Bool) (idx : Nat) (pc : Nat) (ls : ix_L) (st : List Value) (hp : ix_H) : Option (ix_S ⊕ (Option Value × ix_H)) := match ix_tK T oc idx with
  | some (.int v) => some (.inl (pc + 2, ls, .int v :: st, hp))
  | _ => none
theorem fxk_ldc {idx : Nat} (h : fx_ldc T M.1 M.2.2.2.2.2.1 idx pc ls st hp = some res) : ix_sem T f M (.ldc idx) pc ls st hp = some res := by
  unfold fx_ldc at h
  repeat' (split at h)
  all_goals first | (cases h; done) | (cases h; simp_all [ix_sem, ix_ret, ix_alu, ix_loc, ix_hp, ix_len]; done)
noncomputable def fx_ldc_w (T : ix_T) (oc : Nat) (_ : Bool) (idx : Nat) (pc : Nat) (ls : ix_L) (st : List Value) (hp : ix_H) : Option (ix_S ⊕ (Option Value × ix_H)) := match ix_tK T oc idx with
  | some (.int v) => some (.inl (pc + 3, ls, .int v :: st, hp))
  | _ => none
theorem fxk_ldc_w {idx : Nat} (h : fx_ldc_w T M.1 M.2.2.2.2.2.1 idx pc ls st hp = some res) : ix_sem T f M (.ldc_w idx) pc ls st hp = some res := by
  unfold fx_ldc_w at h
  repeat' (split at h)
  all_goals first | (cases h; done) | (cases h; simp_all [ix_sem, ix_ret, ix_alu, ix_loc, ix_hp, ix_len]; done)
noncomputable def fx_ldc2_w (T : ix_T) (oc : Nat) (_ : Bool) (idx : Nat) (pc : Nat) (ls : ix_L) (st : List Value) (hp : ix_H) : Option (ix_S ⊕ (Option Value × ix_H)) := match ix_tK T oc idx with
  | some (.long v) => some (.inl (pc + 3, ls, .long v :: st, hp))
  | _ => none
theorem fxk_ldc2_w {idx : Nat} (h : fx_ldc2_w T M.1 M.2.2.2.2.2.1 idx pc ls st hp = some res) : ix_sem T f M (.ldc2_w idx) pc ls st hp = some res := by
  unfold fx_ldc2_w at h
  repeat' (split at h)
  all_goals first | (cases h; done) | (cases h; simp_all [ix_sem, ix_ret, ix_alu, ix_loc, ix_hp, ix_len]; done)
noncomputable def fx_return (ret : Option FieldType) (st : List Value) (hp : ix_H) : Option (ix_S ⊕ (Option Value × ix_H)) := match st, ret with
  | [], none => some (.inr (none, hp))
  | _, _ => none
theorem fxk_return (h : fx_return M.2.2.2.2.1 st hp = some res) : ix_sem T f M .return_ pc ls st hp = some res := by
  unfold fx_return at h
  split at h
  · rename_i hr
    cases h
    simp [ix_sem, ix_ret, hr]
  · cases h
noncomputable def fx_ireturn (ret : Option FieldType) (st : List Value) (hp : ix_H) : Option (ix_S ⊕ (Option Value × ix_H)) := match st, ret with
  | [.int v], some ty => if narrow ty (.int v) = .int v then some (.inr (some (.int v), hp)) else none
  | _, _ => none
theorem fxk_ireturn (h : fx_ireturn M.2.2.2.2.1 st hp = some res) : ix_sem T f M .ireturn pc ls st hp = some res := by
  unfold fx_ireturn at h
  split at h
  · rename_i hr
    split at h
    · rename_i hn
      cases h
      simp [ix_sem, ix_ret, hr, hn]
    · cases h
  · cases h
noncomputable def fx_lreturn (ret : Option FieldType) (st : List Value) (hp : ix_H) : Option (ix_S ⊕ (Option Value × ix_H)) := match st with
  | [.long v] => if ret = some .long then some (.inr (some (.long v), hp)) else none
  | _ => none
theorem fxk_lreturn (h : fx_lreturn M.2.2.2.2.1 st hp = some res) : ix_sem T f M .lreturn pc ls st hp = some res := by
  unfold fx_lreturn at h
  split at h
  · split at h
    · rename_i hn
      cases h
      simp [ix_sem, ix_ret, hn]
    · cases h
  · cases h
/-- calls: as they stand -/
noncomputable def fx_call (T : ix_T) (f : ix_F) (oc : Nat) (i : Instr) (pc : Nat) (ls : ix_L) (st : List Value) (hp : ix_H) : Option (ix_S ⊕ (Option Value × ix_H)) := match ix_cal T f oc i st hp with
  | some (st', hp') => some (.inl (pc + 3, ls, st', hp'))
  | none => none
theorem fxk_call {i : Instr} (hi : (∃ n, i = .invokevirtual n) ∨ (∃ n, i = .invokespecial n) ∨ ∃ n, i = .invokestatic n) (h : fx_call T f M.1 i pc ls st hp = some res) : ix_sem T f M i pc ls st hp = some res := by
  unfold fx_call at h
  split at h
  · rename_i hc
    cases h
    rcases hi with ⟨n, rfl⟩ | ⟨n, rfl⟩ | ⟨n, rfl⟩ <;> simp [ix_sem, ix_ret, ix_alu, ix_loc, ix_hp, ix_br, hc, ix_len]
  · cases h
end IYF
noncomputable def iy_sem (T : ix_T) (f : ix_F) (M : ix_M) (i : Instr) (pc : Nat) (ls : ix_L) (st : List Value) (hp : ix_H) : Option (ix_S ⊕ (Option Value × ix_H)) := match i with
  | .iadd => fx_iadd pc ls st hp
  | .isub => fx_isub pc ls st hp
  | .imul => fx_imul pc ls st hp
  | .iand => fx_iand pc ls st hp
  | .ior => fx_ior pc ls st hp
  | .ixor => fx_ixor pc ls st hp
  | .ishl => fx_ishl pc ls st hp
  | .ishr => fx_ishr pc ls st hp
  | .iushr => fx_iushr pc ls st hp
  | .ladd => fx_ladd pc ls st hp
  | .lsub => fx_lsub pc ls st hp
  | .lmul => fx_lmul pc ls st hp
  | .land => fx_land pc ls st hp
  | .lor => fx_lor pc ls st hp
  | .lxor => fx_lxor pc ls st hp
  | .idiv => fx_idiv pc ls st hp
  | .irem => fx_irem pc ls st hp
  | .ldiv => fx_ldiv pc ls st hp
  | .lrem => fx_lrem pc ls st hp
  | .lshl => fx_lshl pc ls st hp
  | .lshr => fx_lshr pc ls st hp
  | .lushr => fx_lushr pc ls st hp
  | .ineg => fx_ineg pc ls st hp
  | .lneg => fx_lneg pc ls st hp
  | .i2l => fx_i2l pc ls st hp
  | .l2i => fx_l2i pc ls st hp
  | .i2b => fx_i2b pc ls st hp
  | .i2s => fx_i2s pc ls st hp
  | .i2c => fx_i2c pc ls st hp
  | .lcmp => fx_lcmp pc ls st hp
  | .dup => fx_dup pc ls st hp
  | .pop => fx_pop pc ls st hp
  | .dup2 => fx_dup2 pc ls st hp
  | .iconst v => fx_iconst v pc ls st hp
  | .bipush v => fx_bipush v pc ls st hp
  | .sipush v => fx_sipush v pc ls st hp
  | .lconst v => fx_lconst v pc ls st hp
  | .iload k => fx_iload k 2 pc ls st hp
  | .iload_n k => fx_iload k.val 1 pc ls st hp
  | .istore k => fx_istore k 2 M.2.2.2.1 pc ls st hp
  | .istore_n k => fx_istore k.val 1 M.2.2.2.1 pc ls st hp
  | .lload k => fx_lload k 2 pc ls st hp
  | .lload_n k => fx_lload k.val 1 pc ls st hp
  | .lstore k => fx_lstore k 2 M.2.2.2.1 pc ls st hp
  | .lstore_n k => fx_lstore k.val 1 M.2.2.2.1 pc ls st hp
  | .aload k => fx_aload k 2 pc ls st hp
  | .aload_n k => fx_aload k.val 1 pc ls st hp
  | .astore k => fx_astore k 2 M.2.2.2.1 pc ls st hp
  | .astore_n k => fx_astore k.val 1 M.2.2.2.1 pc ls st hp
  | .iinc k v => fx_iinc k v M.2.2.2.1 pc ls st hp
  | .goto off => fx_goto off pc ls st hp
  | .ifCond cd off => fx_if cd off pc ls st hp
  | .if_icmp cd off => fx_icmp cd off pc ls st hp
  | .tableswitch dflt lo hi offs => fx_tsw dflt lo hi offs pc ls st hp
  | .getfield idx => fx_getfield T M.1 M.2.2.2.2.2.1 idx pc ls st hp
  | .putfield idx => fx_putfield T M.1 M.2.2.2.2.2.1 idx pc ls st hp
  | .arraylength => fx_arraylength T M.1 M.2.2.2.2.2.1  pc ls st hp
  | .iaload => fx_iaload T M.1 M.2.2.2.2.2.1  pc ls st hp
  | .getstatic idx => fx_getstatic T M.1 M.2.2.2.2.2.1 idx pc ls st hp
  | .laload => fx_laload T M.1 M.2.2.2.2.2.1  pc ls st hp
  | .baload => fx_baload T M.1 M.2.2.2.2.2.1  pc ls st hp
  | .aaload => fx_aaload T M.1 M.2.2.2.2.2.1  pc ls st hp
  | .iastore => fx_iastore T M.1 M.2.2.2.2.2.1  pc ls st hp
  | .lastore => fx_lastore T M.1 M.2.2.2.2.2.1  pc ls st hp
  | .bastore => fx_bastore T M.1 M.2.2.2.2.2.1  pc ls st hp
  | .aastore => fx_aastore T M.1 M.2.2.2.2.2.1  pc ls st hp
  | .new idx => fx_new T M.1 M.2.2.2.2.2.1 idx pc ls st hp
  | .newarray aty => fx_newarray T M.1 M.2.2.2.2.2.1 aty pc ls st hp
  | .anewarray idx => fx_anewarray T M.1 M.2.2.2.2.2.1 idx pc ls st hp
  | .ldc idx => fx_ldc T M.1 M.2.2.2.2.2.1 idx pc ls st hp
  | .ldc_w idx => fx_ldc_w T M.1 M.2.2.2.2.2.1 idx pc ls st hp
  | .ldc2_w idx => fx_ldc2_w T M.1 M.2.2.2.2.2.1 idx pc ls st hp
  | .return_ => fx_return M.2.2.2.2.1 st hp
  | .ireturn => fx_ireturn M.2.2.2.2.1 st hp
  | .lreturn => fx_lreturn M.2.2.2.2.1 st hp
  | .invokevirtual n => fx_call T f M.1 (.invokevirtual n) pc ls st hp
  | .invokespecial n => fx_call T f M.1 (.invokespecial n) pc ls st hp
  | .invokestatic n => fx_call T f M.1 (.invokestatic n) pc ls st hp
  | _ => none
theorem iy_sem_ok {T : ix_T} {f : ix_F} {M : ix_M} {i : Instr} {pc : Nat} {ls : ix_L} {st : List Value} {hp : ix_H} {res : ix_S ⊕ (Option Value × ix_H)} (h : iy_sem T f M i pc ls st hp = some res) : ix_sem T f M i pc ls st hp = some res := by
  unfold iy_sem at h
  split at h
  · exact fxk_iadd h
  · exact fxk_isub h
  · exact fxk_imul h
  · exact fxk_iand h
  · exact fxk_ior h
  · exact fxk_ixor h
  · exact fxk_ishl h
  · exact fxk_ishr h
  · exact fxk_iushr h
  · exact fxk_ladd h
  · exact fxk_lsub h
  · exact fxk_lmul h
  · exact fxk_land h
  · exact fxk_lor h
  · exact fxk_lxor h
  · exact fxk_idiv h
  · exact fxk_irem h
  · exact fxk_ldiv h
  · exact fxk_lrem h
  · exact fxk_lshl h
  · exact fxk_lshr h
  · exact fxk_lushr h
  · exact fxk_ineg h
  · exact fxk_lneg h
  · exact fxk_i2l h
  · exact fxk_l2i h
  · exact fxk_i2b h
  · exact fxk_i2s h
  · exact fxk_i2c h
  · exact fxk_lcmp h
  · exact fxk_dup h
  · exact fxk_pop h
  · exact fxk_dup2 h
  · exact fxk_iconst h
  · exact fxk_bipush h
  · exact fxk_sipush h
  · exact fxk_lconst h
  · exact fxk_iload h
  · exact fxk_iload_n h
  · exact fxk_istore h
  · exact fxk_istore_n h
  · exact fxk_lload h
  · exact fxk_lload_n h
  · exact fxk_lstore h
  · exact fxk_lstore_n h
  · exact fxk_aload h
  · exact fxk_aload_n h
  · exact fxk_astore h
  · exact fxk_astore_n h
  · exact fxk_iinc h
  · exact fxk_goto h
  · exact fxk_if h
  · exact fxk_icmp h
  · exact fxk_tsw h
  · exact fxk_getfield h
  · exact fxk_putfield h
  · exact fxk_arraylength h
  · exact fxk_iaload h
  · exact fxk_getstatic h
  · exact fxk_laload h
  · exact fxk_baload h
  · exact fxk_aaload h
  · exact fxk_iastore h
  · exact fxk_lastore h
  · exact fxk_bastore h
  · exact fxk_aastore h
  · exact fxk_new h
  · exact fxk_newarray h
  · exact fxk_anewarray h
  · exact fxk_ldc h
  · exact fxk_ldc_w h
  · exact fxk_ldc2_w h
  · exact fxk_return h
  · exact fxk_ireturn h
  · exact fxk_lreturn h
  · exact fxk_call (Or.inl ⟨_, rfl⟩) h
  · exact fxk_call (Or.inr (Or.inl ⟨_, rfl⟩)) h
  · exact fxk_call (Or.inr (Or.inr ⟨_, rfl⟩)) h
  · cases h
noncomputable def iy_iter (T : ix_T) (f : ix_F) (M : ix_M) : Nat → ix_S → Option (ix_S ⊕ (Option Value × ix_H))
  | 0, (pc, ls, st, hp) => match M.2.2.2.2.2.2 pc with
    | none => none
    | some i => iy_sem T f M i pc ls st hp
  | k + 1, σ => match iy_iter T f M k σ with
    | some (.inl σ') => iy_iter T f M k σ'
    | x => x
theorem ix_cal_sub {T : ix_T} {f g : ix_F} (hfg : ∀ (mid : Nat) (av : List Value) (hp : ix_H) (r : Option Value × ix_H), f mid av hp = some r → g mid av hp = some r) {oc : Nat} {i : Instr} {st : List Value} {hp : ix_H} {r : List Value × ix_H} (h : ix_cal T f oc i st hp = some r) : ix_cal T g oc i st hp = some r := by
  unfold ix_cal at h ⊢
  split at h
  · split at h
    · exact h
    · rename_i hne h1
      split at h
      · rename_i hk
        split at h
        · rename_i hd
          split at h
          · rename_i hc
            split at h
            · rename_i hr
              simp only [if_pos hk, hd, if_pos hc, hfg _ _ _ _ hr]
              exact h
            · cases h
          · cases h
        · cases h
      · cases h
    · cases h
  · split at h
    · split at h
      · rename_i hk
        split at h
        · rename_i hd hM
          split at h
          · rename_i ho
            split at h
            · rename_i hc
              split at h
              · rename_i hr
                simp only [if_pos hk, hd, hM, ho, if_pos hc, hfg _ _ _ _ hr]
                exact h
              · cases h
            · cases h
          · cases h
        · cases h
      · rename_i hk
        split at h
        · rename_i hk8
          split at h
          · rename_i hd
            split at h
            · rename_i ho
              split at h
              · rename_i hc
                split at h
                · rename_i hr
                  simp only [if_neg hk, if_pos hk8, hd, ho, if_pos hc, hfg _ _ _ _ hr]
                  exact h
                · cases h
              · cases h
            · cases h
          · cases h
        · cases h
    · cases h
  · split at h
    · exact h
    · split at h
      · rename_i hk
        split at h
        · rename_i hr
          simp only [if_pos hk, hfg _ _ _ _ hr]
          exact h
        · cases h
      · rename_i hk
        simp only [if_neg hk]
        exact h
    · cases h
  · cases h
theorem ix_sem_sub {T : ix_T} {f g : ix_F} (hfg : ∀ (mid : Nat) (av : List Value) (hp : ix_H) (r : Option Value × ix_H), f mid av hp = some r → g mid av hp = some r) {M : ix_M} {i : Instr} {pc : Nat} {ls : ix_L} {st : List Value} {hp : ix_H} {res : ix_S ⊕ (Option Value × ix_H)} (h : ix_sem T f M i pc ls st hp = some res) : ix_sem T g M i pc ls st hp = some res := by
  unfold ix_sem at h ⊢
  split at h
  · exact h
  · split at h
    · exact h
    · split at h
      · exact h
      · split at h
        · exact h
        · split at h
          · exact h
          · split at h
            · rename_i hc
              rw [ix_cal_sub hfg hc]
              exact h
            · cases h
theorem iy_iter_ok {T : ix_T} {f g : ix_F} (hfg : ∀ (mid : Nat) (av : List Value) (hp : ix_H) (r : Option Value × ix_H), f mid av hp = some r → g mid av hp = some r) {M : ix_M} : ∀ (k : Nat) (σ : ix_S) (res : ix_S ⊕ (Option Value × ix_H)), iy_iter T f M k σ = some res → ix_iter T g M k σ = some res
  | 0, (pc, ls, st, hp), res, h => by
    unfold iy_iter at h
    split at h
    · cases h
    · rename_i i hi
      show ix_one T g M (pc, ls, st, hp) = some res
      rw [ix_one_sem T g M pc ls st hp hi]
      exact ix_sem_sub hfg (iy_sem_ok h)
  | k + 1, σ, res, h => by
    unfold iy_iter at h
    unfold ix_iter
    split at h
    · rename_i σ' h1
      rw [iy_iter_ok hfg k σ _ h1]
      exact iy_iter_ok hfg k σ' res h
    · rename_i hne
      have h2 := iy_iter_ok hfg k σ res h
      rw [h2]
      split
      · rename_i σ' h3
        exact absurd (h.trans h3) (hne σ')
      · rfl
noncomputable def iy_run (T : ix_T) (k : Nat) : Nat → ix_F
  | 0, _, _, _ => none
  | d + 1, mid, args, hp => match ix_tM T mid with
    | none => none
    | some M => if (lg_sl args).length ≤ M.2.2.2.1 then (match iy_iter T (iy_run T k d) M k (0, lv_args 0 args, [], hp) with
      | some (.inr r) => some r
      | _ => none) else none
theorem iy_run_ok (T : ix_T) (k : Nat) : ∀ (d mid : Nat) (av : List Value) (hp : ix_H) (r : Option Value × ix_H), iy_run T k d mid av hp = some r → ix_run T k d mid av hp = some r
  | 0, mid, av, hp, r, h => by cases h
  | d + 1, mid, av, hp, r, h => by
    unfold iy_run at h
    unfold ix_run
    split at h
    · cases h
    · rename_i M hM
      rw [hM]
      simp only at h ⊢
      split at h
      · rename_i hl
        rw [if_pos hl]
        split at h
        · rename_i hr
          rw [iy_iter_ok (iy_run_ok T k d) _ _ _ hr]
          exact h
        · cases h
      · cases h
end
