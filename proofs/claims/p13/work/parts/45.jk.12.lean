section
theorem xw_ls1 : Cond.laysStatic "PacketWall$Headers" "FIELD_COUNTS" "[I" ∈ lw_tbl := xW_in 3 _ (List.mem_of_getElem? (i := 208) (by decide +kernel))
theorem xw_ls2 : Cond.laysStatic "PacketWall$Headers" "FIRST_FORM" "[I" ∈ lw_tbl := xW_in 3 _ (List.mem_of_getElem? (i := 211) (by decide +kernel))
theorem xw_ls3 : Cond.laysStatic "PacketWall$Headers" "FORMS" "[I" ∈ lw_tbl := xW_in 3 _ (List.mem_of_getElem? (i := 213) (by decide +kernel))
theorem xw_ls4 : Cond.laysStatic "PacketWall$Flow" "NEXT_STATES" "[I" ∈ lw_tbl := xW_in 5 _ (List.mem_of_getElem? (i := 10) (by decide +kernel))
theorem xw_ls5 : Cond.laysStatic "PacketWall$Flow" "STREAM_LIVES" "[I" ∈ lw_tbl := xW_in 5 _ (List.mem_of_getElem? (i := 22) (by decide +kernel))
theorem xw_ls6 : Cond.laysStatic "PacketWall$Headers" "NET_IN_SIX" "[I" ∈ lw_tbl := xW_in 6 _ (List.mem_of_getElem? (i := 233) (by decide +kernel))
theorem xw_ls7 : Cond.laysStatic "PacketWall$Headers" "NET_IN_FOUR" "[I" ∈ lw_tbl := xW_in 6 _ (List.mem_of_getElem? (i := 235) (by decide +kernel))
theorem xw_ls8 : Cond.laysStatic "java/lang/String" "COMPACT_STRINGS" "Z" ∈ lw_tbl := xW_in 5 _ (List.mem_of_getElem? (i := 115) (by decide +kernel))
theorem xw_ls9 : Cond.laysStatic "jdk/internal/util/Preconditions" "SIOOBE_FORMATTER" "Ljava/util/function/BiFunction;" ∈ lw_tbl := xW_in 5 _ (List.mem_of_getElem? (i := 131) (by decide +kernel))
theorem xw_in0 : Cond.initialized "PacketWall$Headers" ∈ lw_tbl := xW_in 1 _ (List.mem_of_getElem? (i := 2) (by decide +kernel))
theorem xw_in1 : Cond.initialized "PacketWall$Flow" ∈ lw_tbl := xW_in 1 _ (List.mem_of_getElem? (i := 6) (by decide +kernel))
theorem xw_in2 : Cond.initialized "java/lang/String" ∈ lw_tbl := xW_in 1 _ (List.mem_of_getElem? (i := 16) (by decide +kernel))
theorem xw_in3 : Cond.initialized "jdk/internal/util/Preconditions" ∈ lw_tbl := xW_in 1 _ (List.mem_of_getElem? (i := 18) (by decide +kernel))
theorem xw_sr0 : Cond.stringRef "PacketWall$Parser" 209 "chain behind else if take drop answer return jump try mark count log learn put copy fresh list fail time size flow state failure has byte spend long in row head link tag four six hops route part control stream datagram tunnel rest net carried" ∈ lw_tbl := xW_in 5 _ (List.mem_of_getElem? (i := 101) (by decide +kernel))
theorem xw_sr1 : Cond.stringRef "PacketWall$Parser" 217 "{}()[];,.=<>+-*/%&|!" ∈ lw_tbl := xW_in 5 _ (List.mem_of_getElem? (i := 163) (by decide +kernel))
theorem xw_sr2 : Cond.stringRef "PacketWall$Parser" 173 "to from kind" ∈ lw_tbl := xW_in 6 _ (List.mem_of_getElem? (i := 59) (by decide +kernel))
theorem xw_sr3 : Cond.stringRef "PacketWall$Parser" 175 "rank id kind" ∈ lw_tbl := xW_in 6 _ (List.mem_of_getElem? (i := 60) (by decide +kernel))
theorem xw_sr4 : Cond.stringRef "PacketWall$Parser" 177 "words mark total number flags offset life next sum from to" ∈ lw_tbl := xW_in 6 _ (List.mem_of_getElem? (i := 61) (by decide +kernel))
theorem xw_sr5 : Cond.stringRef "PacketWall$Parser" 179 "mark length next life label from to" ∈ lw_tbl := xW_in 6 _ (List.mem_of_getElem? (i := 62) (by decide +kernel))
theorem xw_sr6 : Cond.stringRef "PacketWall$Parser" 181 "next n" ∈ lw_tbl := xW_in 6 _ (List.mem_of_getElem? (i := 63) (by decide +kernel))
theorem xw_sr7 : Cond.stringRef "PacketWall$Parser" 183 "next n left" ∈ lw_tbl := xW_in 6 _ (List.mem_of_getElem? (i := 64) (by decide +kernel))
theorem xw_sr8 : Cond.stringRef "PacketWall$Parser" 185 "next offset more number" ∈ lw_tbl := xW_in 6 _ (List.mem_of_getElem? (i := 65) (by decide +kernel))
theorem xw_sr9 : Cond.stringRef "PacketWall$Parser" 187 "type code sum rest" ∈ lw_tbl := xW_in 6 _ (List.mem_of_getElem? (i := 66) (by decide +kernel))
theorem xw_sr10 : Cond.stringRef "PacketWall$Parser" 189 "from to sequence ack words flags window sum" ∈ lw_tbl := xW_in 6 _ (List.mem_of_getElem? (i := 67) (by decide +kernel))
theorem xw_sr11 : Cond.stringRef "PacketWall$Parser" 191 "from to length sum" ∈ lw_tbl := xW_in 6 _ (List.mem_of_getElem? (i := 68) (by decide +kernel))
theorem xw_sr12 : Cond.stringRef "PacketWall$Parser" 193 "flags kind" ∈ lw_tbl := xW_in 6 _ (List.mem_of_getElem? (i := 69) (by decide +kernel))
theorem xw_sr13 : Cond.stringRef "PacketWall$Parser" 195 "bytes" ∈ lw_tbl := xW_in 6 _ (List.mem_of_getElem? (i := 70) (by decide +kernel))
theorem xw_sr14 : Cond.stringRef "PacketWall$Parser" 197 "mark life next from to" ∈ lw_tbl := xW_in 6 _ (List.mem_of_getElem? (i := 71) (by decide +kernel))
theorem xw_sr15 : Cond.stringRef "PacketWall$Parser" 199 "sum" ∈ lw_tbl := xW_in 6 _ (List.mem_of_getElem? (i := 72) (by decide +kernel))
/-! ===== the law's frame over the interpreter ===== -/
/-- the script; whether the formatter is null (0) or a reference (1) -/
noncomputable def xs_A (L : Nat) (xs : Nat → Int32) (fm : Nat) : Nat → Option (Nat × (Nat → Int32)) := fun k => bif Nat.beq k 0 then some (L, xs) else bif Nat.beq k 300 then some (fm, fun _ => 0) else none
noncomputable def xcst (b : Nat) (tR : List Nat) (aK aV : List Nat) (tF : Nat) (k : Nat) : Nat := bif Nat.beq k 0 then b else bif Nat.blt k 100 then tR.getD (k - 1) 0 else bif Nat.blt k 200 then aK.getD (k - 100) 0 else bif Nat.blt k 300 then aV.getD (k - 200) 0 else tF
noncomputable def xh_e : ix_H := (0, 0, fun _ => .inr (0, []))
theorem xarr_p {s : State} {args : Array Value} {ty : FieldType} (h : (Cond.arrayClass ty).before args s = true) : ∃ cA : ClassId, ArrOfT s cA ty ∧ s.vm.findClass ("[" ++ ty.toString) = some cA := by
  obtain ⟨cA, kA, comp, hf, hk, hkind⟩ := Cond.arrayClass_spec h
  exact ⟨cA, fun N z => ⟨(fun k h => by cases h), kA, hk, comp, hkind⟩, hf⟩
theorem xarr_o {s : State} {args : Array Value} {C : String} (h : (Cond.arrayOver (.object C)).before args s = true) : ∃ cA : ClassId, ArrOfT s cA (.object C) ∧ va_RA s cA (.object C) := by
  obtain ⟨comp, cA, kA, h1, -, h3, h4, h5⟩ := Cond.arrayOver_spec h
  exact ⟨cA, fun N z => ⟨(fun k h => by cases h), kA, h3, comp, h4⟩, kA, comp, h3, h4, h1, h5⟩
theorem xcl_D : ∀ (k : Nat) (q : vw_C), xcl[k]? = some q → (∀ w ∈ u_ws q.1 q.2.1 q.2.2, w ∈ xTs) ∧ Cond.instantiable q.1 q.2.2 ∈ xTs := fun k q h => by
  obtain ⟨-, -, h3, -, -, -, h7, -⟩ := xok_D (fun _ => none) k q h
  exact ⟨h3, h7⟩
theorem xNs_in : ∀ q ∈ xNs, Cond.methodLinkNest q.1 q.2.1 q.2.2 ix_host ∈ lw_tbl := by
  have h : xNs.all (fun q => match xpN q.1 q.2.1 with
    | some (k, i) => decide ((xW k)[i]? = some (Cond.methodLinkNest q.1 q.2.1 q.2.2 ix_host))
    | none => false) = true := by decide +kernel
  intro q hq
  have h1 := List.all_eq_true.mp h q hq
  split at h1
  · exact xW_in _ _ (List.mem_of_getElem? (of_decide_eq_true h1))
  · cases h1
noncomputable def xks : List (Nat × Nat) := [(9, 209), (9, 217), (9, 173), (9, 175), (9, 177), (9, 179), (9, 181), (9, 183), (9, 185), (9, 187), (9, 189), (9, 191), (9, 193), (9, 195), (9, 197), (9, 199)]
noncomputable def xchkKs (oc : Nat) : Bool := (List.range 1063).all (fun idx => match xT_K oc idx with
  | some (.ref a) => Nat.ble 1000100 a && (Nat.blt a 1000116 && decide (xks[a - 1000100]? = some (oc, idx)))
  | _ => true)
theorem xchkKs_0 : xchkKs 0 = true := by decide +kernel
theorem xchkKs_1 : xchkKs 1 = true := by decide +kernel
theorem xchkKs_2 : xchkKs 2 = true := by decide +kernel
theorem xchkKs_3 : xchkKs 3 = true := by decide +kernel
theorem xchkKs_4 : xchkKs 4 = true := by decide +kernel
theorem xchkKs_5 : xchkKs 5 = true := by decide +kernel
theorem xchkKs_6 : xchkKs 6 = true := by decide +kernel
theorem xchkKs_7 : xchkKs 7 = true := by decide +kernel
theorem xchkKs_8 : xchkKs 8 = true := by decide +kernel
theorem xchkKs_9 : xchkKs 9 = true := by decide +kernel
theorem xchkKs_10 : xchkKs 10 = true := by decide +kernel
theorem xchkKs_11 : xchkKs 11 = true := by decide +kernel
theorem xchkKs_12 : xchkKs 12 = true := by decide +kernel
theorem xchkKs_13 : xchkKs 13 = true := by decide +kernel
theorem xchkKs_14 : xchkKs 14 = true := by decide +kernel
theorem xchkKs_15 : xchkKs 15 = true := by decide +kernel
theorem xchkKs_16 : xchkKs 16 = true := by decide +kernel
theorem xchkKs_17 : xchkKs 17 = true := by decide +kernel
theorem xchkKs_all : ∀ oc, oc < 18 → xchkKs oc = true
  | 0, _ => xchkKs_0
  | 1, _ => xchkKs_1
  | 2, _ => xchkKs_2
  | 3, _ => xchkKs_3
  | 4, _ => xchkKs_4
  | 5, _ => xchkKs_5
  | 6, _ => xchkKs_6
  | 7, _ => xchkKs_7
  | 8, _ => xchkKs_8
  | 9, _ => xchkKs_9
  | 10, _ => xchkKs_10
  | 11, _ => xchkKs_11
  | 12, _ => xchkKs_12
  | 13, _ => xchkKs_13
  | 14, _ => xchkKs_14
  | 15, _ => xchkKs_15
  | 16, _ => xchkKs_16
  | 17, _ => xchkKs_17
  | n + 18, h => absurd h (by omega)
noncomputable def xks_o (q : Nat) : String := xon ((xks.getD q (0, 0)).1)
theorem xKs_ok {oc idx a : Nat} (h : xT_K oc idx = some (.ref a)) : ∃ q : Nat, q < 16 ∧ a = 1000100 + q ∧ (oc, idx) = xks.getD q (0, 0) := by
  obtain ⟨h1, h2⟩ := xT_K_out h
  have h3 := List.all_eq_true.mp (xchkKs_all oc h1) idx (List.mem_range.mpr h2)
  rw [h] at h3
  simp only [Bool.and_eq_true, decide_eq_true_eq] at h3
  obtain ⟨a1, a2, a3⟩ := h3
  have a1 := Nat.le_of_ble_eq_true a1
  have a2 := Nat.blt_eq.mp a2
  exact ⟨a - 1000100, by omega, by omega, by rw [List.getD_eq_getElem?_getD, a3]; rfl⟩
end
section
/-! ===== more rules: Math, System.arraycopy, methods of texts ===== -/
section JL
variable {A : Nat → Option (Nat × (Nat → Int32))} {D : Nat} {m : ix_M} {pc : Nat} {ls : ix_L} {st : List Value} {M : jm} {Q : Option Value → jm → Prop}
/-- a call that is one step -/
theorem jr_c1 {i : Instr} {st' : List Value} {M1 : jm} (hk : (∃ n, i = .invokevirtual n) ∨ (∃ n, i = .invokespecial n) ∨ ∃ n, i = .invokestatic n) (hi : m.2.2.2.2.2.2 pc = some i) (hc : ∀ f : ix_F, ix_cal (xT A) f m.1 i st (jH M) = some (st', jH M1)) (k : jr A D m (pc + 3) ls st' M1 Q) : jr A D m pc ls st M Q := by
  obtain ⟨K, N, rv, M2, h1, h2⟩ := k
  exact ⟨K, 1 + N, rv, M2, fun K' hK D' hD => ix_R.step 1 (ix_n_call hk hi (hc _)) (h1 K' hK D' hD), h2⟩
end JL
end
