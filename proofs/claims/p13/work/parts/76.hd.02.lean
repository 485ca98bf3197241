section
theorem c_PacketWall_carried_x_L62 {A : Nat → Option (Nat × (Nat → Int32))} {Q : Option Value → jm → Prop} {f : Int → Int} {T : jm} {C : Int} {x : Int} {y : Int} {z : Int} (q : ∀ (r : Int) (M' : jm), CI M' → FR W_c_PacketWall_carried_x T M' → (-2147483648) ≤ r ∧ r ≤ 2147483647 → (((x < 0 ∨ 23 < x ∨ T (xe 2 x) 1 = -1) ∧ r = -2) ∨ (((0 ≤ x ∧ x ≤ 23) ∧ T (xe 2 x) 1 ≠ -1) ∧ ∃ C : Int, HE f (T (xe 2 x) 1) C ∧ (((y < 0 ∨ z < 0 ∨ C < y + z) ∧ r = -3) ∨ ((0 ≤ y ∧ 0 ≤ z ∧ y + z ≤ C) ∧ r = crr f (T (xe 2 x) 1) z.toNat y)))) → Q (some (.int (Int32.ofInt r))) M') : ∀ (nM : Nat) (M : jm) (w : Int), CI M → FR W_c_PacketWall_carried_x T M → 0 ≤ x ∧ x ≤ 23 → 0 ≤ y ∧ y ≤ 12 → 0 ≤ z ∧ z ≤ 12 → 0 ≤ w ∧ w ≤ 12 → M 3 3 = C → (HS M 3 f (T (xe 2 x) 1)) → (crr f (T (xe 2 x) 1) z.toNat y = w + crr f (T (xe 2 x) 1) (z - w).toNat (y + w)) → (y + z ≤ C ∧ w ≤ z) → (T (xe 2 x) 1 ≠ -1) → 12 - w ≤ nM → jr A 5 xm_11 62 [(1, .int (Int32.ofInt (x))), (2, .int (Int32.ofInt (y))), (3, .int (Int32.ofInt (z))), (4, .int (Int32.ofInt (w))), (0, .ref (0))] [] M Q := by
  intro nM
  induction nM using Nat.strongRecOn with
  | ind nM ih =>
    intro M w hC_M ht_M h_x h_y h_z h_w g_C hy0 hy1 hy2 hy3 hm
    have b_C : 0 ≤ C ∧ C ≤ 12 := by rw [← g_C]; exact (CI.r hC_M (show kd 3 = 18 from rfl) (by decide) 3)
    refine jr.iload rfl rfl ?_
    refine jr.iload_n rfl rfl ?_
    refine jr.icmp_ge rfl rfl (by omega) (by omega) (fun h65 => ?_) (fun h65 => ?_)
    · refine jr.iload rfl rfl ?_
      exact jr.ireturn rfl rfl rfl (q _ _ hC_M ht_M (by omega) (Or.inr ⟨by omega, C, (by have hq := HQ.e hy0.2.2.2; rw [g_C] at hq; exact hq), Or.inr ⟨by omega, by first | (rw [hy1, cr_0 (by omega)]; omega) | (rw [hy1, cr_s (by omega), if_neg (by rw [← kA_i (C := C) (by omega), ← w0_0]; omega)]; omega)⟩⟩))
    · refine jr.aload_n rfl rfl ?_
      refine jr.getf (i := 3) (v := .ref 3) rfl rfl (by decide) rfl (by decide) rfl rfl rfl rfl ?_
      refine jr.iload_n rfl rfl ?_
      refine jr.iload rfl rfl ?_
      refine jr.iadd rfl ?_
      refine jr_v rfl rfl (Or.inl rfl) rfl rfl (by decide) rfl ⟨rfl, Nat.le_of_ble_eq_true rfl, Nat.le_of_ble_eq_true rfl⟩ rfl (jc.deep (c_Headers_kindAt_x hC_M (show kd 3 = 18 from rfl) (by omega) g_C hy0 (fun r1 z1 w1_0 => ?_)) (by decide))
      refine jr_s rfl rfl (Or.inl rfl) ⟨Nat.le_of_ble_eq_true rfl, Nat.le_of_ble_eq_true rfl⟩ rfl rfl (jc.deep (c_PacketWall_isCarriedKind_x hC_M (by omega) (fun r2 z2 w2_0 w2_1 => ?_)) (by decide))
      refine jr.if_eq rfl rfl (by omega) (fun h82 => ?_) (fun h82 => ?_)
      · refine jr.iload rfl rfl ?_
        exact jr.ireturn rfl rfl rfl (q _ _ hC_M ht_M (by omega) (Or.inr ⟨by omega, C, (by have hq := HQ.e hy0.2.2.2; rw [g_C] at hq; exact hq), Or.inr ⟨by omega, by first | (rw [hy1, cr_0 (by omega)]; omega) | (rw [hy1, cr_s (by omega), if_neg (by rw [← kA_i (C := C) (by omega), ← w1_0]; omega)]; omega)⟩⟩))
      · have sx82 : (1 : Int) ≤ r2 := by omega
        clear h82
        refine jr.iinc (ls' := [_, _, _, _, _]) rfl rfl (by decide) rfl ?_
        refine jr.goto rfl rfl ?_
        refine jr.pick (ls := [_, _, _, _, _]) [1, 2, 3, 0, 4] rfl rfl ?_
        exact ih (nM - 1) (by omega) M (w + 1) hC_M ht_M (by omega) (by omega) (by omega) (by omega) g_C hy0 (by rw [hy1, cr_s (by omega), if_pos (by rw [← kA_i (C := C) (by omega), ← w1_0]; omega), show z - w - 1 = z - (w + 1) from by omega, show y + w + 1 = y + (w + 1) from by omega]; omega) (by omega) hy3 (by omega)
theorem c_PacketWall_carried_x {A : Nat → Option (Nat × (Nat → Int32))} {Q : Option Value → jm → Prop} {f : Int → Int} {T : jm} {M : jm} (hC_M : CI M) (ht_M : FR W_c_PacketWall_carried_x T M) {x : Int} (h_x : (-2147483648) ≤ x ∧ x ≤ 2147483647) {y : Int} (h_y : (-2147483648) ≤ y ∧ y ≤ 2147483647) {z : Int} (h_z : (-2147483648) ≤ z ∧ z ≤ 2147483647) (p0 : T = M) (p1 : ((0 ≤ x ∧ x ≤ 23) → BY8 M ((xe 2 x) + 1) f)) (q : ∀ (r : Int) (M' : jm), CI M' → FR W_c_PacketWall_carried_x T M' → (-2147483648) ≤ r ∧ r ≤ 2147483647 → (((x < 0 ∨ 23 < x ∨ T (xe 2 x) 1 = -1) ∧ r = -2) ∨ (((0 ≤ x ∧ x ≤ 23) ∧ T (xe 2 x) 1 ≠ -1) ∧ ∃ C : Int, HE f (T (xe 2 x) 1) C ∧ (((y < 0 ∨ z < 0 ∨ C < y + z) ∧ r = -3) ∨ ((0 ≤ y ∧ 0 ≤ z ∧ y + z ≤ C) ∧ r = crr f (T (xe 2 x) 1) z.toNat y)))) → Q (some (.int (Int32.ofInt r))) M') : jc A 6 11 [.ref (0), .int (Int32.ofInt (x)), .int (Int32.ofInt (y)), .int (Int32.ofInt (z))] M Q := by
  refine jc_of (m := xm_11) rfl (Nat.le_of_ble_eq_true rfl) rfl ?_
  refine jr.aload_n rfl rfl ?_
  refine jr.iload_n rfl rfl ?_
  refine jr_v rfl rfl (Or.inl rfl) rfl rfl (by decide) rfl ⟨rfl, Nat.le_of_ble_eq_true rfl, Nat.le_of_ble_eq_true rfl⟩ rfl (jc.deep (c_PacketWall_isPacket_x hC_M (by omega) (fun r1 z1 w1_0 w1_1 => ?_)) (by decide))
  refine jr.if_ne rfl rfl (by omega) (fun h5 => ?_) (fun h5 => ?_)
  · have sx5 : (1 : Int) ≤ r1 := by omega
    clear h5
    refine jr.aload_n rfl rfl ?_
    refine jr.getf (i := 3) (v := .ref 3) rfl rfl (by decide) rfl (by decide) rfl rfl rfl rfl ?_
    refine jr.aload_n rfl rfl ?_
    refine jr.getf (i := 2) (v := .ref 2) rfl rfl (by decide) rfl (by decide) rfl rfl rfl rfl ?_
    refine jr.iload_n rfl rfl ?_
    have k2 := kxe_42 (a := 2) rfl (i := x) (by omega) (by omega)
    refine jr.aald (c := (xe 2 x)) rfl (by decide) rfl (by decide) (by decide) rfl (by decide) (by omega) (by omega) k2.1 ?_
    obtain ⟨v4, e4⟩ : ∃ z_, M ((xe 2 x)) 1 = z_ := ⟨_, rfl⟩
    have b4 : (-1) ≤ v4 ∧ v4 ≤ 400 := by rw [← e4]; exact (CI.r hC_M k2.2 (by decide) 1)
    refine jr_v rfl rfl (Or.inl rfl) rfl rfl (by decide) rfl ⟨rfl, Nat.le_of_ble_eq_true rfl, Nat.le_of_ble_eq_true rfl⟩ rfl (jc.deep (c_Headers_readAll_x hC_M (FR.rfl _ M) (show kd 3 = 18 from rfl) k2.2 e4 (p1 (by omega)) (fun M3 hC_M3 hf_M3 w3_0 w3_1 w3_2 => ?_)) (by decide))
    have ht_M3 : FR W_c_PacketWall_carried_x T M3 := FR.t ht_M hf_M3 (kw_sub rfl)
    refine jr.iload_n rfl rfl ?_
    refine jr.if_lt rfl rfl (by omega) (fun h25 => ?_) (fun h25 => ?_)
    · refine jr.bipush rfl (by decide) ?_
      obtain ⟨v5, e5⟩ : ∃ z_, M3 3 3 = z_ := ⟨_, rfl⟩
      have b5 : 0 ≤ v5 ∧ v5 ≤ 12 := by rw [← e5]; exact (CI.r hC_M3 (show kd 3 = 18 from rfl) (by decide) 3)
      exact jr.ireturn rfl rfl rfl (q _ _ hC_M3 ht_M3 (by omega) (Or.inr ⟨by rw [p0]; omega, by rw [p0, e4]; exact ⟨v5, (by have hq := HQ.e ((w3_1.resolve_left (fun h => by omega)).2).2.2.2; rw [e5] at hq; exact hq), Or.inl ⟨by omega, by omega⟩⟩⟩))
    · refine jr.iload_n rfl rfl ?_
      refine jr.if_lt rfl rfl (by omega) (fun h29 => ?_) (fun h29 => ?_)
      · refine jr.bipush rfl (by decide) ?_
        obtain ⟨v6, e6⟩ : ∃ z_, M3 3 3 = z_ := ⟨_, rfl⟩
        have b6 : 0 ≤ v6 ∧ v6 ≤ 12 := by rw [← e6]; exact (CI.r hC_M3 (show kd 3 = 18 from rfl) (by decide) 3)
        exact jr.ireturn rfl rfl rfl (q _ _ hC_M3 ht_M3 (by omega) (Or.inr ⟨by rw [p0]; omega, by rw [p0, e4]; exact ⟨v6, (by have hq := HQ.e ((w3_1.resolve_left (fun h => by omega)).2).2.2.2; rw [e6] at hq; exact hq), Or.inl ⟨by omega, by omega⟩⟩⟩))
      · refine jr.iload_n rfl rfl ?_
        refine jr.aload_n rfl rfl ?_
        refine jr.getf (i := 3) (v := .ref 3) rfl rfl (by decide) rfl (by decide) rfl rfl rfl rfl ?_
        obtain ⟨v7, e7⟩ : ∃ z_, M3 3 3 = z_ := ⟨_, rfl⟩
        have b7 : 0 ≤ v7 ∧ v7 ≤ 12 := by rw [← e7]; exact (CI.r hC_M3 (show kd 3 = 18 from rfl) (by decide) 3)
        refine jr.getf (i := 3) (x := v7) (v := .int (Int32.ofInt (v7))) rfl rfl (by decide) rfl (by decide) rfl rfl e7 rfl ?_
        refine jr.icmp_gt rfl rfl (by omega) (by omega) (fun h40 => ?_) (fun h40 => ?_)
        · refine jr.bipush rfl (by decide) ?_
          exact jr.ireturn rfl rfl rfl (q _ _ hC_M3 ht_M3 (by omega) (Or.inr ⟨by rw [p0]; omega, by rw [p0, e4]; exact ⟨v7, (by have hq := HQ.e ((w3_1.resolve_left (fun h => by omega)).2).2.2.2; rw [e7] at hq; exact hq), Or.inl ⟨by omega, by omega⟩⟩⟩))
        · refine jr.iload_n rfl rfl ?_
          refine jr.aload_n rfl rfl ?_
          refine jr.getf (i := 3) (v := .ref 3) rfl rfl (by decide) rfl (by decide) rfl rfl rfl rfl ?_
          refine jr.getf (i := 3) (x := v7) (v := .int (Int32.ofInt (v7))) rfl rfl (by decide) rfl (by decide) rfl rfl e7 rfl ?_
          refine jr.iload_n rfl rfl ?_
          refine jr.isub rfl ?_
          refine jr.icmp_le rfl rfl (by omega) (by omega) (fun h53 => ?_) (fun h53 => ?_)
          · refine jr.iconst rfl ?_
            refine jr.istore (ls' := [_, _, _, _, _]) rfl (by decide) rfl ?_
            refine jr.pick (ls := [_, _, _, _, _]) [2, 3, 4, 0, 1] rfl rfl ?_
            exact c_PacketWall_carried_x_L62  q 12 M3 0 hC_M3 ht_M3 (by omega) (by omega) (by omega) (by omega) e7 (by rw [p0, e4]; exact ((w3_1.resolve_left (fun h => by omega)).2)) (by rw [show z - 0 = z from by omega, show y + 0 = y from by omega]; omega) (by omega) (by rw [p0]; omega) (by omega)
          · refine jr.bipush rfl (by decide) ?_
            exact jr.ireturn rfl rfl rfl (q _ _ hC_M3 ht_M3 (by omega) (Or.inr ⟨by rw [p0]; omega, by rw [p0, e4]; exact ⟨v7, (by have hq := HQ.e ((w3_1.resolve_left (fun h => by omega)).2).2.2.2; rw [e7] at hq; exact hq), Or.inl ⟨by omega, by omega⟩⟩⟩))
  · refine jr.bipush rfl (by decide) ?_
    exact jr.ireturn rfl rfl rfl (q _ _ hC_M ht_M (by omega) (Or.inl ⟨by rw [p0]; omega, by omega⟩))
theorem HQ.o {T M : jm} {t c : Nat} {f : Int → Int} {N : Int} (h : HQ T t f N) (hk : kd t = 18) (hc : kd c = 34) (o : OR1 T M c) : HQ M t f N := by
  have n0 : t ≠ c := kd_ne (by rw [hk, hc]; decide)
  have n1 : t + 1 ≠ c := kd_ne (by rw [(kf_18_0 hk).2, hc]; decide)
  have n2 : t + 2 ≠ c := kd_ne (by rw [(kf_18_1 hk).2, hc]; decide)
  have n3 : t + 3 ≠ c := kd_ne (by rw [(kf_18_2 hk).2, hc]; decide)
  unfold HQ HR at h ⊢
  rw [o t 3 n0, o t 4 n0, o t 5 n0, o t 6 n0]
  refine ⟨h.1, fun i h0 h1 => ?_, h.2.2⟩
  rw [o (t + 1) i n1, o (t + 2) i n2, o (t + 3) i n3]
  exact h.2.1 i h0 h1
end
