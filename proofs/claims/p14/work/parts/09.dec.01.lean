section
theorem ix_k76 (pc : Nat) : ∃ K : Nat → Decoder Instr, Decoder.instr pc = Reader.u1 >>= K ∧ K 76 = Pure.pure (.astore_n 1) := ⟨(ixKd pc).1, (ixKd pc).2, rfl⟩
theorem ix_k77 (pc : Nat) : ∃ K : Nat → Decoder Instr, Decoder.instr pc = Reader.u1 >>= K ∧ K 77 = Pure.pure (.astore_n 2) := ⟨(ixKd pc).1, (ixKd pc).2, rfl⟩
theorem ix_k78 (pc : Nat) : ∃ K : Nat → Decoder Instr, Decoder.instr pc = Reader.u1 >>= K ∧ K 78 = Pure.pure (.astore_n 3) := ⟨(ixKd pc).1, (ixKd pc).2, rfl⟩
theorem ix_k79 (pc : Nat) : ∃ K : Nat → Decoder Instr, Decoder.instr pc = Reader.u1 >>= K ∧ K 79 = Pure.pure .iastore := ⟨(ixKd pc).1, (ixKd pc).2, rfl⟩
theorem ix_k80 (pc : Nat) : ∃ K : Nat → Decoder Instr, Decoder.instr pc = Reader.u1 >>= K ∧ K 80 = Pure.pure .lastore := ⟨(ixKd pc).1, (ixKd pc).2, rfl⟩
theorem ix_k83 (pc : Nat) : ∃ K : Nat → Decoder Instr, Decoder.instr pc = Reader.u1 >>= K ∧ K 83 = Pure.pure .aastore := ⟨(ixKd pc).1, (ixKd pc).2, rfl⟩
theorem ix_k84 (pc : Nat) : ∃ K : Nat → Decoder Instr, Decoder.instr pc = Reader.u1 >>= K ∧ K 84 = Pure.pure .bastore := ⟨(ixKd pc).1, (ixKd pc).2, rfl⟩
theorem ix_k87 (pc : Nat) : ∃ K : Nat → Decoder Instr, Decoder.instr pc = Reader.u1 >>= K ∧ K 87 = Pure.pure .pop := ⟨(ixKd pc).1, (ixKd pc).2, rfl⟩
theorem ix_k88 (pc : Nat) : ∃ K : Nat → Decoder Instr, Decoder.instr pc = Reader.u1 >>= K ∧ K 88 = Pure.pure .pop2 := ⟨(ixKd pc).1, (ixKd pc).2, rfl⟩
theorem ix_k89 (pc : Nat) : ∃ K : Nat → Decoder Instr, Decoder.instr pc = Reader.u1 >>= K ∧ K 89 = Pure.pure .dup := ⟨(ixKd pc).1, (ixKd pc).2, rfl⟩
theorem ix_k90 (pc : Nat) : ∃ K : Nat → Decoder Instr, Decoder.instr pc = Reader.u1 >>= K ∧ K 90 = Pure.pure .dup_x1 := ⟨(ixKd pc).1, (ixKd pc).2, rfl⟩
theorem ix_k91 (pc : Nat) : ∃ K : Nat → Decoder Instr, Decoder.instr pc = Reader.u1 >>= K ∧ K 91 = Pure.pure .dup_x2 := ⟨(ixKd pc).1, (ixKd pc).2, rfl⟩
theorem ix_k92 (pc : Nat) : ∃ K : Nat → Decoder Instr, Decoder.instr pc = Reader.u1 >>= K ∧ K 92 = Pure.pure .dup2 := ⟨(ixKd pc).1, (ixKd pc).2, rfl⟩
theorem ix_k93 (pc : Nat) : ∃ K : Nat → Decoder Instr, Decoder.instr pc = Reader.u1 >>= K ∧ K 93 = Pure.pure .dup2_x1 := ⟨(ixKd pc).1, (ixKd pc).2, rfl⟩
theorem ix_k94 (pc : Nat) : ∃ K : Nat → Decoder Instr, Decoder.instr pc = Reader.u1 >>= K ∧ K 94 = Pure.pure .dup2_x2 := ⟨(ixKd pc).1, (ixKd pc).2, rfl⟩
theorem ix_k96 (pc : Nat) : ∃ K : Nat → Decoder Instr, Decoder.instr pc = Reader.u1 >>= K ∧ K 96 = Pure.pure .iadd := ⟨(ixKd pc).1, (ixKd pc).2, rfl⟩
theorem ix_k97 (pc : Nat) : ∃ K : Nat → Decoder Instr, Decoder.instr pc = Reader.u1 >>= K ∧ K 97 = Pure.pure .ladd := ⟨(ixKd pc).1, (ixKd pc).2, rfl⟩
theorem ix_k100 (pc : Nat) : ∃ K : Nat → Decoder Instr, Decoder.instr pc = Reader.u1 >>= K ∧ K 100 = Pure.pure .isub := ⟨(ixKd pc).1, (ixKd pc).2, rfl⟩
theorem ix_k101 (pc : Nat) : ∃ K : Nat → Decoder Instr, Decoder.instr pc = Reader.u1 >>= K ∧ K 101 = Pure.pure .lsub := ⟨(ixKd pc).1, (ixKd pc).2, rfl⟩
theorem ix_k104 (pc : Nat) : ∃ K : Nat → Decoder Instr, Decoder.instr pc = Reader.u1 >>= K ∧ K 104 = Pure.pure .imul := ⟨(ixKd pc).1, (ixKd pc).2, rfl⟩
theorem ix_k105 (pc : Nat) : ∃ K : Nat → Decoder Instr, Decoder.instr pc = Reader.u1 >>= K ∧ K 105 = Pure.pure .lmul := ⟨(ixKd pc).1, (ixKd pc).2, rfl⟩
theorem ix_k108 (pc : Nat) : ∃ K : Nat → Decoder Instr, Decoder.instr pc = Reader.u1 >>= K ∧ K 108 = Pure.pure .idiv := ⟨(ixKd pc).1, (ixKd pc).2, rfl⟩
theorem ix_k109 (pc : Nat) : ∃ K : Nat → Decoder Instr, Decoder.instr pc = Reader.u1 >>= K ∧ K 109 = Pure.pure .ldiv := ⟨(ixKd pc).1, (ixKd pc).2, rfl⟩
theorem ix_k112 (pc : Nat) : ∃ K : Nat → Decoder Instr, Decoder.instr pc = Reader.u1 >>= K ∧ K 112 = Pure.pure .irem := ⟨(ixKd pc).1, (ixKd pc).2, rfl⟩
theorem ix_k113 (pc : Nat) : ∃ K : Nat → Decoder Instr, Decoder.instr pc = Reader.u1 >>= K ∧ K 113 = Pure.pure .lrem := ⟨(ixKd pc).1, (ixKd pc).2, rfl⟩
theorem ix_k116 (pc : Nat) : ∃ K : Nat → Decoder Instr, Decoder.instr pc = Reader.u1 >>= K ∧ K 116 = Pure.pure .ineg := ⟨(ixKd pc).1, (ixKd pc).2, rfl⟩
theorem ix_k117 (pc : Nat) : ∃ K : Nat → Decoder Instr, Decoder.instr pc = Reader.u1 >>= K ∧ K 117 = Pure.pure .lneg := ⟨(ixKd pc).1, (ixKd pc).2, rfl⟩
theorem ix_k120 (pc : Nat) : ∃ K : Nat → Decoder Instr, Decoder.instr pc = Reader.u1 >>= K ∧ K 120 = Pure.pure .ishl := ⟨(ixKd pc).1, (ixKd pc).2, rfl⟩
theorem ix_k121 (pc : Nat) : ∃ K : Nat → Decoder Instr, Decoder.instr pc = Reader.u1 >>= K ∧ K 121 = Pure.pure .lshl := ⟨(ixKd pc).1, (ixKd pc).2, rfl⟩
theorem ix_k122 (pc : Nat) : ∃ K : Nat → Decoder Instr, Decoder.instr pc = Reader.u1 >>= K ∧ K 122 = Pure.pure .ishr := ⟨(ixKd pc).1, (ixKd pc).2, rfl⟩
theorem ix_k123 (pc : Nat) : ∃ K : Nat → Decoder Instr, Decoder.instr pc = Reader.u1 >>= K ∧ K 123 = Pure.pure .lshr := ⟨(ixKd pc).1, (ixKd pc).2, rfl⟩
theorem ix_k124 (pc : Nat) : ∃ K : Nat → Decoder Instr, Decoder.instr pc = Reader.u1 >>= K ∧ K 124 = Pure.pure .iushr := ⟨(ixKd pc).1, (ixKd pc).2, rfl⟩
theorem ix_k125 (pc : Nat) : ∃ K : Nat → Decoder Instr, Decoder.instr pc = Reader.u1 >>= K ∧ K 125 = Pure.pure .lushr := ⟨(ixKd pc).1, (ixKd pc).2, rfl⟩
theorem ix_k126 (pc : Nat) : ∃ K : Nat → Decoder Instr, Decoder.instr pc = Reader.u1 >>= K ∧ K 126 = Pure.pure .iand := ⟨(ixKd pc).1, (ixKd pc).2, rfl⟩
theorem ix_k127 (pc : Nat) : ∃ K : Nat → Decoder Instr, Decoder.instr pc = Reader.u1 >>= K ∧ K 127 = Pure.pure .land := ⟨(ixKd pc).1, (ixKd pc).2, rfl⟩
theorem ix_k128 (pc : Nat) : ∃ K : Nat → Decoder Instr, Decoder.instr pc = Reader.u1 >>= K ∧ K 128 = Pure.pure .ior := ⟨(ixKd pc).1, (ixKd pc).2, rfl⟩
theorem ix_k129 (pc : Nat) : ∃ K : Nat → Decoder Instr, Decoder.instr pc = Reader.u1 >>= K ∧ K 129 = Pure.pure .lor := ⟨(ixKd pc).1, (ixKd pc).2, rfl⟩
theorem ix_k130 (pc : Nat) : ∃ K : Nat → Decoder Instr, Decoder.instr pc = Reader.u1 >>= K ∧ K 130 = Pure.pure .ixor := ⟨(ixKd pc).1, (ixKd pc).2, rfl⟩
theorem ix_k131 (pc : Nat) : ∃ K : Nat → Decoder Instr, Decoder.instr pc = Reader.u1 >>= K ∧ K 131 = Pure.pure .lxor := ⟨(ixKd pc).1, (ixKd pc).2, rfl⟩
theorem ix_k133 (pc : Nat) : ∃ K : Nat → Decoder Instr, Decoder.instr pc = Reader.u1 >>= K ∧ K 133 = Pure.pure .i2l := ⟨(ixKd pc).1, (ixKd pc).2, rfl⟩
theorem ix_k136 (pc : Nat) : ∃ K : Nat → Decoder Instr, Decoder.instr pc = Reader.u1 >>= K ∧ K 136 = Pure.pure .l2i := ⟨(ixKd pc).1, (ixKd pc).2, rfl⟩
theorem ix_k145 (pc : Nat) : ∃ K : Nat → Decoder Instr, Decoder.instr pc = Reader.u1 >>= K ∧ K 145 = Pure.pure .i2b := ⟨(ixKd pc).1, (ixKd pc).2, rfl⟩
theorem ix_k146 (pc : Nat) : ∃ K : Nat → Decoder Instr, Decoder.instr pc = Reader.u1 >>= K ∧ K 146 = Pure.pure .i2c := ⟨(ixKd pc).1, (ixKd pc).2, rfl⟩
theorem ix_k147 (pc : Nat) : ∃ K : Nat → Decoder Instr, Decoder.instr pc = Reader.u1 >>= K ∧ K 147 = Pure.pure .i2s := ⟨(ixKd pc).1, (ixKd pc).2, rfl⟩
theorem ix_k148 (pc : Nat) : ∃ K : Nat → Decoder Instr, Decoder.instr pc = Reader.u1 >>= K ∧ K 148 = Pure.pure .lcmp := ⟨(ixKd pc).1, (ixKd pc).2, rfl⟩
theorem ix_k153 (pc : Nat) : ∃ K : Nat → Decoder Instr, Decoder.instr pc = Reader.u1 >>= K ∧ K 153 = Reader.s2 >>= fun v => Pure.pure (.ifCond .eq v) := ⟨(ixKd pc).1, (ixKd pc).2, rfl⟩
theorem ix_k154 (pc : Nat) : ∃ K : Nat → Decoder Instr, Decoder.instr pc = Reader.u1 >>= K ∧ K 154 = Reader.s2 >>= fun v => Pure.pure (.ifCond .ne v) := ⟨(ixKd pc).1, (ixKd pc).2, rfl⟩
theorem ix_k155 (pc : Nat) : ∃ K : Nat → Decoder Instr, Decoder.instr pc = Reader.u1 >>= K ∧ K 155 = Reader.s2 >>= fun v => Pure.pure (.ifCond .lt v) := ⟨(ixKd pc).1, (ixKd pc).2, rfl⟩
theorem ix_k156 (pc : Nat) : ∃ K : Nat → Decoder Instr, Decoder.instr pc = Reader.u1 >>= K ∧ K 156 = Reader.s2 >>= fun v => Pure.pure (.ifCond .ge v) := ⟨(ixKd pc).1, (ixKd pc).2, rfl⟩
theorem ix_k157 (pc : Nat) : ∃ K : Nat → Decoder Instr, Decoder.instr pc = Reader.u1 >>= K ∧ K 157 = Reader.s2 >>= fun v => Pure.pure (.ifCond .gt v) := ⟨(ixKd pc).1, (ixKd pc).2, rfl⟩
theorem ix_k158 (pc : Nat) : ∃ K : Nat → Decoder Instr, Decoder.instr pc = Reader.u1 >>= K ∧ K 158 = Reader.s2 >>= fun v => Pure.pure (.ifCond .le v) := ⟨(ixKd pc).1, (ixKd pc).2, rfl⟩
theorem ix_k159 (pc : Nat) : ∃ K : Nat → Decoder Instr, Decoder.instr pc = Reader.u1 >>= K ∧ K 159 = Reader.s2 >>= fun v => Pure.pure (.if_icmp .eq v) := ⟨(ixKd pc).1, (ixKd pc).2, rfl⟩
theorem ix_k160 (pc : Nat) : ∃ K : Nat → Decoder Instr, Decoder.instr pc = Reader.u1 >>= K ∧ K 160 = Reader.s2 >>= fun v => Pure.pure (.if_icmp .ne v) := ⟨(ixKd pc).1, (ixKd pc).2, rfl⟩
theorem ix_k161 (pc : Nat) : ∃ K : Nat → Decoder Instr, Decoder.instr pc = Reader.u1 >>= K ∧ K 161 = Reader.s2 >>= fun v => Pure.pure (.if_icmp .lt v) := ⟨(ixKd pc).1, (ixKd pc).2, rfl⟩
theorem ix_k162 (pc : Nat) : ∃ K : Nat → Decoder Instr, Decoder.instr pc = Reader.u1 >>= K ∧ K 162 = Reader.s2 >>= fun v => Pure.pure (.if_icmp .ge v) := ⟨(ixKd pc).1, (ixKd pc).2, rfl⟩
theorem ix_k163 (pc : Nat) : ∃ K : Nat → Decoder Instr, Decoder.instr pc = Reader.u1 >>= K ∧ K 163 = Reader.s2 >>= fun v => Pure.pure (.if_icmp .gt v) := ⟨(ixKd pc).1, (ixKd pc).2, rfl⟩
theorem ix_k164 (pc : Nat) : ∃ K : Nat → Decoder Instr, Decoder.instr pc = Reader.u1 >>= K ∧ K 164 = Reader.s2 >>= fun v => Pure.pure (.if_icmp .le v) := ⟨(ixKd pc).1, (ixKd pc).2, rfl⟩
theorem ix_k166 (pc : Nat) : ∃ K : Nat → Decoder Instr, Decoder.instr pc = Reader.u1 >>= K ∧ K 166 = Reader.s2 >>= fun v => Pure.pure (.if_acmp .ne v) := ⟨(ixKd pc).1, (ixKd pc).2, rfl⟩
theorem ix_k167 (pc : Nat) : ∃ K : Nat → Decoder Instr, Decoder.instr pc = Reader.u1 >>= K ∧ K 167 = Reader.s2 >>= fun v => Pure.pure (.goto v) := ⟨(ixKd pc).1, (ixKd pc).2, rfl⟩
theorem ix_k172 (pc : Nat) : ∃ K : Nat → Decoder Instr, Decoder.instr pc = Reader.u1 >>= K ∧ K 172 = Pure.pure .ireturn := ⟨(ixKd pc).1, (ixKd pc).2, rfl⟩
theorem ix_k173 (pc : Nat) : ∃ K : Nat → Decoder Instr, Decoder.instr pc = Reader.u1 >>= K ∧ K 173 = Pure.pure .lreturn := ⟨(ixKd pc).1, (ixKd pc).2, rfl⟩
theorem ix_k176 (pc : Nat) : ∃ K : Nat → Decoder Instr, Decoder.instr pc = Reader.u1 >>= K ∧ K 176 = Pure.pure .areturn := ⟨(ixKd pc).1, (ixKd pc).2, rfl⟩
theorem ix_k177 (pc : Nat) : ∃ K : Nat → Decoder Instr, Decoder.instr pc = Reader.u1 >>= K ∧ K 177 = Pure.pure .return_ := ⟨(ixKd pc).1, (ixKd pc).2, rfl⟩
theorem ix_k178 (pc : Nat) : ∃ K : Nat → Decoder Instr, Decoder.instr pc = Reader.u1 >>= K ∧ K 178 = Reader.u2 >>= fun v => Pure.pure (.getstatic v) := ⟨(ixKd pc).1, (ixKd pc).2, rfl⟩
theorem ix_k180 (pc : Nat) : ∃ K : Nat → Decoder Instr, Decoder.instr pc = Reader.u1 >>= K ∧ K 180 = Reader.u2 >>= fun v => Pure.pure (.getfield v) := ⟨(ixKd pc).1, (ixKd pc).2, rfl⟩
theorem ix_k181 (pc : Nat) : ∃ K : Nat → Decoder Instr, Decoder.instr pc = Reader.u1 >>= K ∧ K 181 = Reader.u2 >>= fun v => Pure.pure (.putfield v) := ⟨(ixKd pc).1, (ixKd pc).2, rfl⟩
theorem ix_k182 (pc : Nat) : ∃ K : Nat → Decoder Instr, Decoder.instr pc = Reader.u1 >>= K ∧ K 182 = Reader.u2 >>= fun v => Pure.pure (.invokevirtual v) := ⟨(ixKd pc).1, (ixKd pc).2, rfl⟩
theorem ix_k183 (pc : Nat) : ∃ K : Nat → Decoder Instr, Decoder.instr pc = Reader.u1 >>= K ∧ K 183 = Reader.u2 >>= fun v => Pure.pure (.invokespecial v) := ⟨(ixKd pc).1, (ixKd pc).2, rfl⟩
theorem ix_k184 (pc : Nat) : ∃ K : Nat → Decoder Instr, Decoder.instr pc = Reader.u1 >>= K ∧ K 184 = Reader.u2 >>= fun v => Pure.pure (.invokestatic v) := ⟨(ixKd pc).1, (ixKd pc).2, rfl⟩
theorem ix_k187 (pc : Nat) : ∃ K : Nat → Decoder Instr, Decoder.instr pc = Reader.u1 >>= K ∧ K 187 = Reader.u2 >>= fun v => Pure.pure (.new v) := ⟨(ixKd pc).1, (ixKd pc).2, rfl⟩
theorem ix_k189 (pc : Nat) : ∃ K : Nat → Decoder Instr, Decoder.instr pc = Reader.u1 >>= K ∧ K 189 = Reader.u2 >>= fun v => Pure.pure (.anewarray v) := ⟨(ixKd pc).1, (ixKd pc).2, rfl⟩
theorem ix_k190 (pc : Nat) : ∃ K : Nat → Decoder Instr, Decoder.instr pc = Reader.u1 >>= K ∧ K 190 = Pure.pure .arraylength := ⟨(ixKd pc).1, (ixKd pc).2, rfl⟩
theorem ix_k132 (pc : Nat) : ∃ K : Nat → Decoder Instr, Decoder.instr pc = Reader.u1 >>= K ∧ K 132 = Reader.u1 >>= fun v => Reader.s1 >>= fun w => Pure.pure (.iinc v w) := ⟨(ixKd pc).1, (ixKd pc).2, rfl⟩
end
