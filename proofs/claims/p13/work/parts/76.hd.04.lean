section
theorem c_PacketWall_repair_x {A : Nat → Option (Nat × (Nat → Int32))} {Q : Option Value → jm → Prop} {f : Int → Int} {T : jm} {M : jm} (hC_M : CI M) (ht_M : FR W_c_PacketWall_repair_x T M) {x : Int} (h_x : (-2147483648) ≤ x ∧ x ≤ 2147483647) (p0 : T = M) (p1 : ((0 ≤ x ∧ x ≤ 23) → BY8 M ((xe 2 x) + 1) f)) (q : ∀ (r : Int) (M' : jm), CI M' → FR W_c_PacketWall_repair_x T M' → (-2147483648) ≤ r ∧ r ≤ 2147483647 → (((x < 0 ∨ 23 < x ∨ T (xe 2 x) 1 = -1) ∧ r = -2 ∧ OP T M' 0) ∨ (((0 ≤ x ∧ x ≤ 23) ∧ T (xe 2 x) 1 ≠ -1) ∧ OP T M' ((xe 2 x) + 1) ∧ ∃ C : Int, HE f (T (xe 2 x) 1) C ∧ r = rpN f (T (xe 2 x) 1) C C.toNat f ∧ BY8 M' ((xe 2 x) + 1) (rpF f (T (xe 2 x) 1) C C.toNat f))) → Q (some (.int (Int32.ofInt r))) M') : jc A 6 13 [.ref (0), .int (Int32.ofInt (x))] M Q := by
  refine jc_of (m := xm_13) rfl (Nat.le_of_ble_eq_true rfl) rfl ?_
  refine jr.aload_n rfl rfl ?_
  refine jr.iload_n rfl rfl ?_
  refine jr_v rfl rfl (Or.inl rfl) rfl rfl (by decide) rfl ⟨rfl, Nat.le_of_ble_eq_true rfl, Nat.le_of_ble_eq_true rfl⟩ rfl (jc.deep (c_PacketWall_isPacket_x hC_M (by omega) (fun r1 z1 w1_0 w1_1 => ?_)) (by decide))
  refine jr.if_ne rfl rfl (by omega) (fun h5 => ?_) (fun h5 => ?_)
  · have sx5 : (1 : Int) ≤ r1 := by omega
    clear h5
    refine jr.aload_n rfl rfl ?_
    refine jr.getf (i := 3) (v := .ref 3) rfl rfl (by decide) rfl (by decide) rfl rfl rfl rfl ?_
    refine jr.aload_n rfl rfl ?_
    refine jr.getf (i := 2) (v := .ref 2) rfl rfl (by decide) rfl (by decide) rfl rfl rfl rfl ?_
    refine jr.iload_n rfl rfl ?_
    have k2 := kxe_42 (a := 2) rfl (i := x) (by omega) (by omega)
    refine jr.aald (c := (xe 2 x)) rfl (by decide) rfl (by decide) (by decide) rfl (by decide) (by omega) (by omega) k2.1 ?_
    obtain ⟨v4, e4⟩ : ∃ z_, M ((xe 2 x)) 1 = z_ := ⟨_, rfl⟩
    have b4 : (-1) ≤ v4 ∧ v4 ≤ 400 := by rw [← e4]; exact (CI.r hC_M k2.2 (by decide) 1)
    refine jr_v rfl rfl (Or.inl rfl) rfl rfl (by decide) rfl ⟨rfl, Nat.le_of_ble_eq_true rfl, Nat.le_of_ble_eq_true rfl⟩ rfl (jc.deep (c_Headers_readAll_x hC_M (FR.rfl _ M) (show kd 3 = 18 from rfl) k2.2 e4 (p1 (by omega)) (fun M3 hC_M3 hf_M3 w3_0 w3_1 w3_2 => ?_)) (by decide))
    have ht_M3 : FR W_c_PacketWall_repair_x T M3 := FR.t ht_M hf_M3 (kw_sub rfl)
    refine jr.iconst rfl ?_
    refine jr.istore_n (ls' := [_, _, _]) rfl (by decide) rfl ?_
    refine jr.aload_n rfl rfl ?_
    refine jr.getf (i := 3) (v := .ref 3) rfl rfl (by decide) rfl (by decide) rfl rfl rfl rfl ?_
    obtain ⟨v5, e5⟩ : ∃ z_, M3 3 3 = z_ := ⟨_, rfl⟩
    have b5 : 0 ≤ v5 ∧ v5 ≤ 12 := by rw [← e5]; exact (CI.r hC_M3 (show kd 3 = 18 from rfl) (by decide) 3)
    refine jr.getf (i := 3) (x := v5) (v := .int (Int32.ofInt (v5))) rfl rfl (by decide) rfl (by decide) rfl rfl e5 rfl ?_
    refine jr.iconst rfl ?_
    refine jr.isub rfl ?_
    refine jr.istore_n (ls' := [_, _, _, _]) rfl (by decide) rfl ?_
    obtain ⟨v6, e6⟩ : ∃ z_, M3 3 7 = z_ := ⟨_, rfl⟩
    have b6 : 0 ≤ v6 ∧ v6 ≤ 597 := by rw [← e6]; exact (CI.r hC_M3 (show kd 3 = 18 from rfl) (by decide) 7)
    refine jr.pick (ls := [_, _, _, _]) [3, 1, 0, 2] rfl rfl ?_
    exact c_PacketWall_repair_x_L36  q 12 M3 0 (v5 - 1) hC_M3 ht_M3 (by omega) (by omega) (by omega) e5 e6 (by rw [p0, e4]; exact ⟨f, ((w3_1.resolve_left (fun h => by omega)).2).two, by rw [show v5 - 1 + 1 = v5 from by omega], by rw [show v5 - 1 + 1 = v5 from by omega]; omega⟩) (by omega) (by rw [p0, e4]; exact (by have hq := HQ.e ((w3_1.resolve_left (fun h => by omega)).2).2.2.2; rw [e5] at hq; exact hq)) (by rw [p0]; exact OP.f _ hf_M3 rfl) (by rw [p0]; omega) (by omega) (by omega)
  · refine jr.bipush rfl (by decide) ?_
    exact jr.ireturn rfl rfl rfl (q _ _ hC_M ht_M (by omega) (Or.inl ⟨by rw [p0]; omega, by omega, by rw [p0]; exact fun _ _ _ _ => rfl⟩))
theorem hsF_r (f : Int → Int) (n c bk k a : Int) : 0 ≤ hsF f n c bk k a ∧ hsF f n c bk k a ≤ 6 := by
  unfold hsF
  (repeat' split) <;> omega
noncomputable def W_c_PacketWall_read_x : List (Nat × Nat) := [(18, 3), (18, 4), (18, 5), (18, 6), (18, 7), (19, 1000), (20, 1000), (21, 1000), (39, 1000)]
end
