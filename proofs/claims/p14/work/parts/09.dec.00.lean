section
/-! ===== the instructions out of the bytes in one pass ===== -/
section IXD
variable {b : ByteArray} {pc : Nat} {x y z : UInt8} {r : List UInt8}
theorem ix_u1 {p : Nat} (hl : b.data.toList.drop p = x :: r) : Reader.runAt (Reader.u1 : Decoder Nat) b p = .ok (x.toNat, p + 1) := by
  have hp : p < b.data.toList.length := by
    rcases Nat.lt_or_ge p b.data.toList.length with h | h
    · exact h
    · rw [List.drop_eq_nil_of_le h] at hl; cases hl
  have hs : p < b.size := hp
  have hx : b[p] = x := by
    have h1 : (b.data.toList.drop p)[0]? = some x := by rw [hl]; rfl
    rw [List.getElem?_drop, Nat.add_zero, List.getElem?_eq_getElem hp] at h1
    exact Option.some.inj h1
  rw [← hx]
  first
    | (simp [Reader.u1, Reader.runAt, hs]; done)
    | (show ((if h : p < b.size then _ else _ : Decoder Nat) b p) = _; rw [dif_pos hs]; rfl)
theorem ix_bnd {α β : Type} {q : Decoder α} {f : α → Decoder β} {p p' : Nat} {a : α} (h : Reader.runAt q b p = .ok (a, p')) : Reader.runAt (q >>= f) b p = Reader.runAt (f a) b p' := by
  have h2 : (ReaderT.run q b).run p = Except.ok (a, p') := h
  show Except.bind ((ReaderT.run q b).run p) _ = _
  rw [h2]
  rfl
theorem ix_dl {l1 l2 : List UInt8} {n : Nat} (h : b.data.toList.drop pc = l1 ++ l2) (hn : l1.length = n) : b.data.toList.drop (pc + n) = l2 := by
  rw [← List.drop_drop, h, ← hn, List.drop_left]
theorem ix_s1 {p : Nat} (hl : b.data.toList.drop p = x :: r) : Reader.runAt (Reader.s1 : Decoder Int) b p = .ok (Reader.signed 8 x.toNat, p + 1) := by
  have h := ix_u1 hl
  have h2 : (ReaderT.run (Reader.u1 : Decoder Nat) b).run p = Except.ok (x.toNat, p + 1) := h
  show Except.bind ((ReaderT.run (Reader.u1 : Decoder Nat) b).run p) _ = _
  rw [h2]
  rfl
theorem ix_u2 {p : Nat} (hl : b.data.toList.drop p = x :: y :: r) : Reader.runAt (Reader.u2 : Decoder Nat) b p = .ok (x.toNat * 256 + y.toNat, p + 2) := by
  have h1 := ix_u1 hl
  have h2 := ix_u1 (p := p + 1) (x := y) (r := r) (ix_dl (n := 1) (l1 := [x]) hl rfl)
  have e : (Reader.u2 : Decoder Nat) = Reader.u1 >>= fun hi => Reader.u1 >>= fun lo => Pure.pure (hi * 256 + lo) := rfl
  rw [e, ix_bnd h1, ix_bnd h2]
  rfl
theorem ix_s2 {p : Nat} (hl : b.data.toList.drop p = x :: y :: r) : Reader.runAt (Reader.s2 : Decoder Int) b p = .ok (Reader.signed 16 (x.toNat * 256 + y.toNat), p + 2) := by
  have h := ix_u2 hl
  have h2 : (ReaderT.run (Reader.u2 : Decoder Nat) b).run p = Except.ok (x.toNat * 256 + y.toNat, p + 2) := h
  show Except.bind ((ReaderT.run (Reader.u2 : Decoder Nat) b).run p) _ = _
  rw [h2]
  rfl
theorem ix_dfin {i : Instr} {n : Nat} (h : Reader.runAt (Decoder.instr pc) b pc = .ok (i, pc + n)) : decode b pc = .ok (i, n) := by
  show Except.bind (Reader.runAt (Decoder.instr pc) b pc) _ = _
  rw [h]
  show Except.ok (i, pc + n - pc) = Except.ok (i, n)
  rw [Nat.add_sub_cancel_left]
theorem ix_d0 {i : Instr} {K : Nat → Decoder Instr} (hl : b.data.toList.drop pc = x :: r) (hK : Decoder.instr pc = Reader.u1 >>= K) (h1 : K x.toNat = Pure.pure i) : decode b pc = .ok (i, 1) := by
  refine ix_dfin ?_
  rw [hK, ix_bnd (ix_u1 hl), h1]
  rfl
theorem ix_d1 {f : Nat → Instr} {K : Nat → Decoder Instr} (hl : b.data.toList.drop pc = x :: y :: r) (hK : Decoder.instr pc = Reader.u1 >>= K) (h1 : K x.toNat = Reader.u1 >>= fun v => Pure.pure (f v)) : decode b pc = .ok (f y.toNat, 2) := by
  refine ix_dfin ?_
  rw [hK, ix_bnd (ix_u1 hl), h1, ix_bnd (ix_u1 (ix_dl (n := 1) (l1 := [x]) hl rfl))]
  rfl
theorem ix_d1s {f : Int → Instr} {K : Nat → Decoder Instr} (hl : b.data.toList.drop pc = x :: y :: r) (hK : Decoder.instr pc = Reader.u1 >>= K) (h1 : K x.toNat = Reader.s1 >>= fun v => Pure.pure (f v)) : decode b pc = .ok (f (Reader.signed 8 y.toNat), 2) := by
  refine ix_dfin ?_
  rw [hK, ix_bnd (ix_u1 hl), h1, ix_bnd (ix_s1 (ix_dl (n := 1) (l1 := [x]) hl rfl))]
  rfl
theorem ix_d2 {f : Nat → Instr} {K : Nat → Decoder Instr} (hl : b.data.toList.drop pc = x :: y :: z :: r) (hK : Decoder.instr pc = Reader.u1 >>= K) (h1 : K x.toNat = Reader.u2 >>= fun v => Pure.pure (f v)) : decode b pc = .ok (f (y.toNat * 256 + z.toNat), 3) := by
  refine ix_dfin ?_
  rw [hK, ix_bnd (ix_u1 hl), h1, ix_bnd (ix_u2 (ix_dl (n := 1) (l1 := [x]) hl rfl))]
  rfl
theorem ix_d2s {f : Int → Instr} {K : Nat → Decoder Instr} (hl : b.data.toList.drop pc = x :: y :: z :: r) (hK : Decoder.instr pc = Reader.u1 >>= K) (h1 : K x.toNat = Reader.s2 >>= fun v => Pure.pure (f v)) : decode b pc = .ok (f (Reader.signed 16 (y.toNat * 256 + z.toNat)), 3) := by
  refine ix_dfin ?_
  rw [hK, ix_bnd (ix_u1 hl), h1, ix_bnd (ix_s2 (ix_dl (n := 1) (l1 := [x]) hl rfl))]
  rfl
end IXD
noncomputable def ixKd (pc : Nat) : Subtype (fun K : Nat → Decoder Instr => Decoder.instr pc = Reader.u1 >>= K) := ⟨_, rfl⟩
theorem ix_k1 (pc : Nat) : ∃ K : Nat → Decoder Instr, Decoder.instr pc = Reader.u1 >>= K ∧ K 1 = Pure.pure .aconst_null := ⟨(ixKd pc).1, (ixKd pc).2, rfl⟩
theorem ix_k2 (pc : Nat) : ∃ K : Nat → Decoder Instr, Decoder.instr pc = Reader.u1 >>= K ∧ K 2 = Pure.pure (.iconst (-1)) := ⟨(ixKd pc).1, (ixKd pc).2, rfl⟩
theorem ix_k3 (pc : Nat) : ∃ K : Nat → Decoder Instr, Decoder.instr pc = Reader.u1 >>= K ∧ K 3 = Pure.pure (.iconst 0) := ⟨(ixKd pc).1, (ixKd pc).2, rfl⟩
theorem ix_k4 (pc : Nat) : ∃ K : Nat → Decoder Instr, Decoder.instr pc = Reader.u1 >>= K ∧ K 4 = Pure.pure (.iconst 1) := ⟨(ixKd pc).1, (ixKd pc).2, rfl⟩
theorem ix_k5 (pc : Nat) : ∃ K : Nat → Decoder Instr, Decoder.instr pc = Reader.u1 >>= K ∧ K 5 = Pure.pure (.iconst 2) := ⟨(ixKd pc).1, (ixKd pc).2, rfl⟩
theorem ix_k6 (pc : Nat) : ∃ K : Nat → Decoder Instr, Decoder.instr pc = Reader.u1 >>= K ∧ K 6 = Pure.pure (.iconst 3) := ⟨(ixKd pc).1, (ixKd pc).2, rfl⟩
theorem ix_k7 (pc : Nat) : ∃ K : Nat → Decoder Instr, Decoder.instr pc = Reader.u1 >>= K ∧ K 7 = Pure.pure (.iconst 4) := ⟨(ixKd pc).1, (ixKd pc).2, rfl⟩
theorem ix_k8 (pc : Nat) : ∃ K : Nat → Decoder Instr, Decoder.instr pc = Reader.u1 >>= K ∧ K 8 = Pure.pure (.iconst 5) := ⟨(ixKd pc).1, (ixKd pc).2, rfl⟩
theorem ix_k9 (pc : Nat) : ∃ K : Nat → Decoder Instr, Decoder.instr pc = Reader.u1 >>= K ∧ K 9 = Pure.pure (.lconst 0) := ⟨(ixKd pc).1, (ixKd pc).2, rfl⟩
theorem ix_k10 (pc : Nat) : ∃ K : Nat → Decoder Instr, Decoder.instr pc = Reader.u1 >>= K ∧ K 10 = Pure.pure (.lconst 1) := ⟨(ixKd pc).1, (ixKd pc).2, rfl⟩
theorem ix_k16 (pc : Nat) : ∃ K : Nat → Decoder Instr, Decoder.instr pc = Reader.u1 >>= K ∧ K 16 = Reader.s1 >>= fun v => Pure.pure (.bipush v) := ⟨(ixKd pc).1, (ixKd pc).2, rfl⟩
theorem ix_k17 (pc : Nat) : ∃ K : Nat → Decoder Instr, Decoder.instr pc = Reader.u1 >>= K ∧ K 17 = Reader.s2 >>= fun v => Pure.pure (.sipush v) := ⟨(ixKd pc).1, (ixKd pc).2, rfl⟩
theorem ix_k18 (pc : Nat) : ∃ K : Nat → Decoder Instr, Decoder.instr pc = Reader.u1 >>= K ∧ K 18 = Reader.u1 >>= fun v => Pure.pure (.ldc v) := ⟨(ixKd pc).1, (ixKd pc).2, rfl⟩
theorem ix_k19 (pc : Nat) : ∃ K : Nat → Decoder Instr, Decoder.instr pc = Reader.u1 >>= K ∧ K 19 = Reader.u2 >>= fun v => Pure.pure (.ldc_w v) := ⟨(ixKd pc).1, (ixKd pc).2, rfl⟩
theorem ix_k20 (pc : Nat) : ∃ K : Nat → Decoder Instr, Decoder.instr pc = Reader.u1 >>= K ∧ K 20 = Reader.u2 >>= fun v => Pure.pure (.ldc2_w v) := ⟨(ixKd pc).1, (ixKd pc).2, rfl⟩
theorem ix_k21 (pc : Nat) : ∃ K : Nat → Decoder Instr, Decoder.instr pc = Reader.u1 >>= K ∧ K 21 = Reader.u1 >>= fun v => Pure.pure (.iload v) := ⟨(ixKd pc).1, (ixKd pc).2, rfl⟩
theorem ix_k22 (pc : Nat) : ∃ K : Nat → Decoder Instr, Decoder.instr pc = Reader.u1 >>= K ∧ K 22 = Reader.u1 >>= fun v => Pure.pure (.lload v) := ⟨(ixKd pc).1, (ixKd pc).2, rfl⟩
theorem ix_k25 (pc : Nat) : ∃ K : Nat → Decoder Instr, Decoder.instr pc = Reader.u1 >>= K ∧ K 25 = Reader.u1 >>= fun v => Pure.pure (.aload v) := ⟨(ixKd pc).1, (ixKd pc).2, rfl⟩
theorem ix_k26 (pc : Nat) : ∃ K : Nat → Decoder Instr, Decoder.instr pc = Reader.u1 >>= K ∧ K 26 = Pure.pure (.iload_n 0) := ⟨(ixKd pc).1, (ixKd pc).2, rfl⟩
theorem ix_k27 (pc : Nat) : ∃ K : Nat → Decoder Instr, Decoder.instr pc = Reader.u1 >>= K ∧ K 27 = Pure.pure (.iload_n 1) := ⟨(ixKd pc).1, (ixKd pc).2, rfl⟩
theorem ix_k28 (pc : Nat) : ∃ K : Nat → Decoder Instr, Decoder.instr pc = Reader.u1 >>= K ∧ K 28 = Pure.pure (.iload_n 2) := ⟨(ixKd pc).1, (ixKd pc).2, rfl⟩
theorem ix_k29 (pc : Nat) : ∃ K : Nat → Decoder Instr, Decoder.instr pc = Reader.u1 >>= K ∧ K 29 = Pure.pure (.iload_n 3) := ⟨(ixKd pc).1, (ixKd pc).2, rfl⟩
theorem ix_k30 (pc : Nat) : ∃ K : Nat → Decoder Instr, Decoder.instr pc = Reader.u1 >>= K ∧ K 30 = Pure.pure (.lload_n 0) := ⟨(ixKd pc).1, (ixKd pc).2, rfl⟩
theorem ix_k31 (pc : Nat) : ∃ K : Nat → Decoder Instr, Decoder.instr pc = Reader.u1 >>= K ∧ K 31 = Pure.pure (.lload_n 1) := ⟨(ixKd pc).1, (ixKd pc).2, rfl⟩
theorem ix_k32 (pc : Nat) : ∃ K : Nat → Decoder Instr, Decoder.instr pc = Reader.u1 >>= K ∧ K 32 = Pure.pure (.lload_n 2) := ⟨(ixKd pc).1, (ixKd pc).2, rfl⟩
theorem ix_k33 (pc : Nat) : ∃ K : Nat → Decoder Instr, Decoder.instr pc = Reader.u1 >>= K ∧ K 33 = Pure.pure (.lload_n 3) := ⟨(ixKd pc).1, (ixKd pc).2, rfl⟩
theorem ix_k42 (pc : Nat) : ∃ K : Nat → Decoder Instr, Decoder.instr pc = Reader.u1 >>= K ∧ K 42 = Pure.pure (.aload_n 0) := ⟨(ixKd pc).1, (ixKd pc).2, rfl⟩
theorem ix_k43 (pc : Nat) : ∃ K : Nat → Decoder Instr, Decoder.instr pc = Reader.u1 >>= K ∧ K 43 = Pure.pure (.aload_n 1) := ⟨(ixKd pc).1, (ixKd pc).2, rfl⟩
theorem ix_k44 (pc : Nat) : ∃ K : Nat → Decoder Instr, Decoder.instr pc = Reader.u1 >>= K ∧ K 44 = Pure.pure (.aload_n 2) := ⟨(ixKd pc).1, (ixKd pc).2, rfl⟩
theorem ix_k45 (pc : Nat) : ∃ K : Nat → Decoder Instr, Decoder.instr pc = Reader.u1 >>= K ∧ K 45 = Pure.pure (.aload_n 3) := ⟨(ixKd pc).1, (ixKd pc).2, rfl⟩
theorem ix_k46 (pc : Nat) : ∃ K : Nat → Decoder Instr, Decoder.instr pc = Reader.u1 >>= K ∧ K 46 = Pure.pure .iaload := ⟨(ixKd pc).1, (ixKd pc).2, rfl⟩
theorem ix_k47 (pc : Nat) : ∃ K : Nat → Decoder Instr, Decoder.instr pc = Reader.u1 >>= K ∧ K 47 = Pure.pure .laload := ⟨(ixKd pc).1, (ixKd pc).2, rfl⟩
theorem ix_k50 (pc : Nat) : ∃ K : Nat → Decoder Instr, Decoder.instr pc = Reader.u1 >>= K ∧ K 50 = Pure.pure .aaload := ⟨(ixKd pc).1, (ixKd pc).2, rfl⟩
theorem ix_k51 (pc : Nat) : ∃ K : Nat → Decoder Instr, Decoder.instr pc = Reader.u1 >>= K ∧ K 51 = Pure.pure .baload := ⟨(ixKd pc).1, (ixKd pc).2, rfl⟩
theorem ix_k54 (pc : Nat) : ∃ K : Nat → Decoder Instr, Decoder.instr pc = Reader.u1 >>= K ∧ K 54 = Reader.u1 >>= fun v => Pure.pure (.istore v) := ⟨(ixKd pc).1, (ixKd pc).2, rfl⟩
theorem ix_k55 (pc : Nat) : ∃ K : Nat → Decoder Instr, Decoder.instr pc = Reader.u1 >>= K ∧ K 55 = Reader.u1 >>= fun v => Pure.pure (.lstore v) := ⟨(ixKd pc).1, (ixKd pc).2, rfl⟩
theorem ix_k58 (pc : Nat) : ∃ K : Nat → Decoder Instr, Decoder.instr pc = Reader.u1 >>= K ∧ K 58 = Reader.u1 >>= fun v => Pure.pure (.astore v) := ⟨(ixKd pc).1, (ixKd pc).2, rfl⟩
theorem ix_k59 (pc : Nat) : ∃ K : Nat → Decoder Instr, Decoder.instr pc = Reader.u1 >>= K ∧ K 59 = Pure.pure (.istore_n 0) := ⟨(ixKd pc).1, (ixKd pc).2, rfl⟩
theorem ix_k60 (pc : Nat) : ∃ K : Nat → Decoder Instr, Decoder.instr pc = Reader.u1 >>= K ∧ K 60 = Pure.pure (.istore_n 1) := ⟨(ixKd pc).1, (ixKd pc).2, rfl⟩
theorem ix_k61 (pc : Nat) : ∃ K : Nat → Decoder Instr, Decoder.instr pc = Reader.u1 >>= K ∧ K 61 = Pure.pure (.istore_n 2) := ⟨(ixKd pc).1, (ixKd pc).2, rfl⟩
theorem ix_k62 (pc : Nat) : ∃ K : Nat → Decoder Instr, Decoder.instr pc = Reader.u1 >>= K ∧ K 62 = Pure.pure (.istore_n 3) := ⟨(ixKd pc).1, (ixKd pc).2, rfl⟩
theorem ix_k63 (pc : Nat) : ∃ K : Nat → Decoder Instr, Decoder.instr pc = Reader.u1 >>= K ∧ K 63 = Pure.pure (.lstore_n 0) := ⟨(ixKd pc).1, (ixKd pc).2, rfl⟩
theorem ix_k64 (pc : Nat) : ∃ K : Nat → Decoder Instr, Decoder.instr pc = Reader.u1 >>= K ∧ K 64 = Pure.pure (.lstore_n 1) := ⟨(ixKd pc).1, (ixKd pc).2, rfl⟩
theorem ix_k65 (pc : Nat) : ∃ K : Nat → Decoder Instr, Decoder.instr pc = Reader.u1 >>= K ∧ K 65 = Pure.pure (.lstore_n 2) := ⟨(ixKd pc).1, (ixKd pc).2, rfl⟩
theorem ix_k66 (pc : Nat) : ∃ K : Nat → Decoder Instr, Decoder.instr pc = Reader.u1 >>= K ∧ K 66 = Pure.pure (.lstore_n 3) := ⟨(ixKd pc).1, (ixKd pc).2, rfl⟩
theorem ix_k75 (pc : Nat) : ∃ K : Nat → Decoder Instr, Decoder.instr pc = Reader.u1 >>= K ∧ K 75 = Pure.pure (.astore_n 0) := ⟨(ixKd pc).1, (ixKd pc).2, rfl⟩
end
