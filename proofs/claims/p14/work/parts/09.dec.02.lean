section
theorem ix_k188 (pc : Nat) : ∃ K J : Nat → Decoder Instr, Decoder.instr pc = Reader.u1 >>= K ∧ K 188 = Reader.u1 >>= J ∧ J 4 = Pure.pure (.newarray .boolean) ∧ J 10 = Pure.pure (.newarray .int) ∧ J 11 = Pure.pure (.newarray .long) := ⟨_, _, rfl, rfl, rfl, rfl, rfl⟩
noncomputable def ix_en : Instr → List UInt8 → Bool
  | .aconst_null, x :: _ => Nat.beq x.toNat 1
  | .iaload, x :: _ => Nat.beq x.toNat 46
  | .laload, x :: _ => Nat.beq x.toNat 47
  | .aaload, x :: _ => Nat.beq x.toNat 50
  | .baload, x :: _ => Nat.beq x.toNat 51
  | .iastore, x :: _ => Nat.beq x.toNat 79
  | .lastore, x :: _ => Nat.beq x.toNat 80
  | .aastore, x :: _ => Nat.beq x.toNat 83
  | .bastore, x :: _ => Nat.beq x.toNat 84
  | .pop, x :: _ => Nat.beq x.toNat 87
  | .pop2, x :: _ => Nat.beq x.toNat 88
  | .dup, x :: _ => Nat.beq x.toNat 89
  | .dup_x1, x :: _ => Nat.beq x.toNat 90
  | .dup_x2, x :: _ => Nat.beq x.toNat 91
  | .dup2, x :: _ => Nat.beq x.toNat 92
  | .dup2_x1, x :: _ => Nat.beq x.toNat 93
  | .dup2_x2, x :: _ => Nat.beq x.toNat 94
  | .iadd, x :: _ => Nat.beq x.toNat 96
  | .ladd, x :: _ => Nat.beq x.toNat 97
  | .isub, x :: _ => Nat.beq x.toNat 100
  | .lsub, x :: _ => Nat.beq x.toNat 101
  | .imul, x :: _ => Nat.beq x.toNat 104
  | .lmul, x :: _ => Nat.beq x.toNat 105
  | .idiv, x :: _ => Nat.beq x.toNat 108
  | .ldiv, x :: _ => Nat.beq x.toNat 109
  | .irem, x :: _ => Nat.beq x.toNat 112
  | .lrem, x :: _ => Nat.beq x.toNat 113
  | .ineg, x :: _ => Nat.beq x.toNat 116
  | .lneg, x :: _ => Nat.beq x.toNat 117
  | .ishl, x :: _ => Nat.beq x.toNat 120
  | .lshl, x :: _ => Nat.beq x.toNat 121
  | .ishr, x :: _ => Nat.beq x.toNat 122
  | .lshr, x :: _ => Nat.beq x.toNat 123
  | .iushr, x :: _ => Nat.beq x.toNat 124
  | .lushr, x :: _ => Nat.beq x.toNat 125
  | .iand, x :: _ => Nat.beq x.toNat 126
  | .land, x :: _ => Nat.beq x.toNat 127
  | .ior, x :: _ => Nat.beq x.toNat 128
  | .lor, x :: _ => Nat.beq x.toNat 129
  | .ixor, x :: _ => Nat.beq x.toNat 130
  | .lxor, x :: _ => Nat.beq x.toNat 131
  | .i2l, x :: _ => Nat.beq x.toNat 133
  | .l2i, x :: _ => Nat.beq x.toNat 136
  | .i2b, x :: _ => Nat.beq x.toNat 145
  | .i2c, x :: _ => Nat.beq x.toNat 146
  | .i2s, x :: _ => Nat.beq x.toNat 147
  | .lcmp, x :: _ => Nat.beq x.toNat 148
  | .ireturn, x :: _ => Nat.beq x.toNat 172
  | .lreturn, x :: _ => Nat.beq x.toNat 173
  | .areturn, x :: _ => Nat.beq x.toNat 176
  | .return_, x :: _ => Nat.beq x.toNat 177
  | .arraylength, x :: _ => Nat.beq x.toNat 190
  | .iload_n k, x :: _ => Nat.beq x.toNat (26 + k.val)
  | .lload_n k, x :: _ => Nat.beq x.toNat (30 + k.val)
  | .aload_n k, x :: _ => Nat.beq x.toNat (42 + k.val)
  | .istore_n k, x :: _ => Nat.beq x.toNat (59 + k.val)
  | .lstore_n k, x :: _ => Nat.beq x.toNat (63 + k.val)
  | .astore_n k, x :: _ => Nat.beq x.toNat (75 + k.val)
  | .lconst k, x :: _ => Nat.beq x.toNat (9 + k.val)
  | .iconst n, x :: _ => decide ((x.toNat : Int) = n + 3 ∧ 2 ≤ x.toNat ∧ x.toNat ≤ 8)
  | .ldc v, x :: y :: _ => Nat.beq x.toNat 18 && Nat.beq y.toNat v
  | .iload v, x :: y :: _ => Nat.beq x.toNat 21 && Nat.beq y.toNat v
  | .lload v, x :: y :: _ => Nat.beq x.toNat 22 && Nat.beq y.toNat v
  | .aload v, x :: y :: _ => Nat.beq x.toNat 25 && Nat.beq y.toNat v
  | .istore v, x :: y :: _ => Nat.beq x.toNat 54 && Nat.beq y.toNat v
  | .lstore v, x :: y :: _ => Nat.beq x.toNat 55 && Nat.beq y.toNat v
  | .astore v, x :: y :: _ => Nat.beq x.toNat 58 && Nat.beq y.toNat v
  | .bipush v, x :: y :: _ => Nat.beq x.toNat 16 && decide (Reader.signed 8 y.toNat = v)
  | .ldc_w v, x :: y :: z :: _ => Nat.beq x.toNat 19 && Nat.beq (y.toNat * 256 + z.toNat) v
  | .ldc2_w v, x :: y :: z :: _ => Nat.beq x.toNat 20 && Nat.beq (y.toNat * 256 + z.toNat) v
  | .getstatic v, x :: y :: z :: _ => Nat.beq x.toNat 178 && Nat.beq (y.toNat * 256 + z.toNat) v
  | .getfield v, x :: y :: z :: _ => Nat.beq x.toNat 180 && Nat.beq (y.toNat * 256 + z.toNat) v
  | .putfield v, x :: y :: z :: _ => Nat.beq x.toNat 181 && Nat.beq (y.toNat * 256 + z.toNat) v
  | .invokevirtual v, x :: y :: z :: _ => Nat.beq x.toNat 182 && Nat.beq (y.toNat * 256 + z.toNat) v
  | .invokespecial v, x :: y :: z :: _ => Nat.beq x.toNat 183 && Nat.beq (y.toNat * 256 + z.toNat) v
  | .invokestatic v, x :: y :: z :: _ => Nat.beq x.toNat 184 && Nat.beq (y.toNat * 256 + z.toNat) v
  | .new v, x :: y :: z :: _ => Nat.beq x.toNat 187 && Nat.beq (y.toNat * 256 + z.toNat) v
  | .anewarray v, x :: y :: z :: _ => Nat.beq x.toNat 189 && Nat.beq (y.toNat * 256 + z.toNat) v
  | .sipush v, x :: y :: z :: _ => Nat.beq x.toNat 17 && decide (Reader.signed 16 (y.toNat * 256 + z.toNat) = v)
  | .ifCond .eq v, x :: y :: z :: _ => Nat.beq x.toNat 153 && decide (Reader.signed 16 (y.toNat * 256 + z.toNat) = v)
  | .ifCond .ne v, x :: y :: z :: _ => Nat.beq x.toNat 154 && decide (Reader.signed 16 (y.toNat * 256 + z.toNat) = v)
  | .ifCond .lt v, x :: y :: z :: _ => Nat.beq x.toNat 155 && decide (Reader.signed 16 (y.toNat * 256 + z.toNat) = v)
  | .ifCond .ge v, x :: y :: z :: _ => Nat.beq x.toNat 156 && decide (Reader.signed 16 (y.toNat * 256 + z.toNat) = v)
  | .ifCond .gt v, x :: y :: z :: _ => Nat.beq x.toNat 157 && decide (Reader.signed 16 (y.toNat * 256 + z.toNat) = v)
  | .ifCond .le v, x :: y :: z :: _ => Nat.beq x.toNat 158 && decide (Reader.signed 16 (y.toNat * 256 + z.toNat) = v)
  | .if_icmp .eq v, x :: y :: z :: _ => Nat.beq x.toNat 159 && decide (Reader.signed 16 (y.toNat * 256 + z.toNat) = v)
  | .if_icmp .ne v, x :: y :: z :: _ => Nat.beq x.toNat 160 && decide (Reader.signed 16 (y.toNat * 256 + z.toNat) = v)
  | .if_icmp .lt v, x :: y :: z :: _ => Nat.beq x.toNat 161 && decide (Reader.signed 16 (y.toNat * 256 + z.toNat) = v)
  | .if_icmp .ge v, x :: y :: z :: _ => Nat.beq x.toNat 162 && decide (Reader.signed 16 (y.toNat * 256 + z.toNat) = v)
  | .if_icmp .gt v, x :: y :: z :: _ => Nat.beq x.toNat 163 && decide (Reader.signed 16 (y.toNat * 256 + z.toNat) = v)
  | .if_icmp .le v, x :: y :: z :: _ => Nat.beq x.toNat 164 && decide (Reader.signed 16 (y.toNat * 256 + z.toNat) = v)
  | .if_acmp .ne v, x :: y :: z :: _ => Nat.beq x.toNat 166 && decide (Reader.signed 16 (y.toNat * 256 + z.toNat) = v)
  | .goto v, x :: y :: z :: _ => Nat.beq x.toNat 167 && decide (Reader.signed 16 (y.toNat * 256 + z.toNat) = v)
  | .iinc v w, x :: y :: z :: _ => Nat.beq x.toNat 132 && (Nat.beq y.toNat v && decide (Reader.signed 8 z.toNat = w))
  | .newarray .boolean, x :: y :: _ => Nat.beq x.toNat 188 && Nat.beq y.toNat 4
  | .newarray .int, x :: y :: _ => Nat.beq x.toNat 188 && Nat.beq y.toNat 10
  | .newarray .long, x :: y :: _ => Nat.beq x.toNat 188 && Nat.beq y.toNat 11
  | _, _ => false
end
