section
/-! ===== the calls of the law, 0 ===== -/
theorem lop_0 {A : Nat → Option (Nat × (Nat → Int32))} [HA A] {Q : Option Value → jm → Prop} {N : Nat} {xs : Nat → Int32} (hA0 : A 0 = some (N, xs)) (hN : N ≤ 4000) {M : jm} {L L2 S i : Int} (cv : CV M L S) (rv : RV M L2 S) (rd : RDA M M) (hS : 0 ≤ S ∧ S ≤ 900000) (hL : 0 ≤ L ∧ L ≤ 1900000000) (hL2 : 0 ≤ L2 ∧ L2 ≤ 1900000000) (hi : 0 ≤ i ∧ i + 6 ≤ N) (k : ∀ (M' : jm) (S' : Int), S ≤ S' → S' ≤ S + 1000 → CV M' (L + 1000000) S' → RV M' (L2 + 2689623) S' → RDA M' M' → jr A 364 xm_law 1328 [(3, .int (Int32.ofInt (i))), (2, .ref (598)), (1, .ref (0)), (0, .ref (1000000))] [] M' Q) : jr A 364 xm_law 208 [(3, .int (Int32.ofInt (i))), (2, .ref (598)), (1, .ref (0)), (0, .ref (1000000))] [] M Q := by
  have hC_M := cv.1
  have hne := cv.2.2.2.1
  have hz4 := cv.2.2.2.2.1
  have hS8 := cv.2.2.2.2.2
  refine jr.aload_n rfl rfl ?_
  refine jr.aload_n rfl rfl ?_
  refine jr.iload_n rfl rfl ?_
  refine jr.iconst rfl ?_
  refine jr.iadd rfl ?_
  obtain ⟨v1, e1⟩ : ∃ z_, (xs (i + 1).toNat).toInt = z_ := ⟨_, rfl⟩
  have b1 : -2147483648 ≤ v1 ∧ v1 ≤ 2147483647 := by rw [← e1]; exact jb_any _
  refine jr.ials (i := (i + 1)) v1 rfl (by decide) hA0 (by omega) (by omega) (by omega) (by rw [← e1]; exact (Int32.ofInt_toInt _).symm) ?_
  refine jr.aload_n rfl rfl ?_
  refine jr.iload_n rfl rfl ?_
  refine jr.iconst rfl ?_
  refine jr.iadd rfl ?_
  obtain ⟨v2, e2⟩ : ∃ z_, (xs (i + 2).toNat).toInt = z_ := ⟨_, rfl⟩
  have b2 : -2147483648 ≤ v2 ∧ v2 ≤ 2147483647 := by rw [← e2]; exact jb_any _
  refine jr.ials (i := (i + 2)) v2 rfl (by decide) hA0 (by omega) (by omega) (by omega) (by rw [← e2]; exact (Int32.ofInt_toInt _).symm) ?_
  refine jr.aload_n rfl rfl ?_
  refine jr.iload_n rfl rfl ?_
  refine jr.iconst rfl ?_
  refine jr.iadd rfl ?_
  obtain ⟨v3, e3⟩ : ∃ z_, (xs (i + 3).toNat).toInt = z_ := ⟨_, rfl⟩
  have b3 : -2147483648 ≤ v3 ∧ v3 ≤ 2147483647 := by rw [← e3]; exact jb_any _
  refine jr.ials (i := (i + 3)) v3 rfl (by decide) hA0 (by omega) (by omega) (by omega) (by rw [← e3]; exact (Int32.ofInt_toInt _).symm) ?_
  refine jr.aload_n rfl rfl ?_
  refine jr.iload_n rfl rfl ?_
  refine jr.iconst rfl ?_
  refine jr.iadd rfl ?_
  obtain ⟨v4, e4⟩ : ∃ z_, (xs (i + 4).toNat).toInt = z_ := ⟨_, rfl⟩
  have b4 : -2147483648 ≤ v4 ∧ v4 ≤ 2147483647 := by rw [← e4]; exact jb_any _
  refine jr.ials (i := (i + 4)) v4 rfl (by decide) hA0 (by omega) (by omega) (by omega) (by rw [← e4]; exact (Int32.ofInt_toInt _).symm) ?_
  refine jr.aload_n rfl rfl ?_
  refine jr.iload_n rfl rfl ?_
  refine jr.iconst rfl ?_
  refine jr.iadd rfl ?_
  obtain ⟨v5, e5⟩ : ∃ z_, (xs (i + 5).toNat).toInt = z_ := ⟨_, rfl⟩
  have b5 : -2147483648 ≤ v5 ∧ v5 ≤ 2147483647 := by rw [← e5]; exact jb_any _
  refine jr.ials (i := (i + 5)) v5 rfl (by decide) hA0 (by omega) (by omega) (by omega) (by rw [← e5]; exact (Int32.ofInt_toInt _).symm) ?_
  refine jr_v rfl rfl (Or.inl rfl) rfl rfl (nlt rfl) rfl ⟨rfl, Nat.le_of_ble_eq_true rfl, Nat.le_of_ble_eq_true rfl⟩ rfl (jc.deep (c_PacketWall_feed_f cv.1 (FR.rfl _ M) (by omega) (by omega) (by omega) (by omega) (by omega) rfl rfl (fun r6 M6 hC_M6 hf_M6 z6 w6_0 w6_1 => ?_)) (Nat.le_of_ble_eq_true rfl))
  have cv1 : CV M6 L S := ⟨hC_M6, (cv.2.1.fr hf_M6 rfl), (cv.2.2.1.fr cv.1 hf_M6 rfl), (by rw [hf_M6.g (show kd 413 = 44 from rfl) rfl, hf_M6.g (show kd 421 = 22 from rfl) rfl]; exact cv.2.2.2.1), ((hf_M6.g (show kd 421 = 22 from rfl) rfl).trans cv.2.2.2.2.1), ((hf_M6.g (show kd 0 = 35 from rfl) rfl).trans cv.2.2.2.2.2)⟩
  have rv1 : RV M6 L2 S := RV.tr rv (fun a i ha => hf_M6.g (kd_hi ha) rfl)
  have rd1 : RDA M M6 := rd.rr rv.2.2.2.1 rv.1 (fun a i ha => hf_M6.g (kd_hi ha) rfl)
  refine jr.pop rfl rfl ?_
  refine jr.aload_n rfl rfl ?_
  refine jr.aload_n rfl rfl ?_
  refine jr.iload_n rfl rfl ?_
  refine jr.iconst rfl ?_
  refine jr.iadd rfl ?_
  refine jr.ials (i := (i + 1)) v1 rfl (by decide) hA0 (by omega) (by omega) (by omega) (by rw [← e1]; exact (Int32.ofInt_toInt _).symm) ?_
  refine jr.aload_n rfl rfl ?_
  refine jr.iload_n rfl rfl ?_
  refine jr.iconst rfl ?_
  refine jr.iadd rfl ?_
  refine jr.ials (i := (i + 2)) v2 rfl (by decide) hA0 (by omega) (by omega) (by omega) (by rw [← e2]; exact (Int32.ofInt_toInt _).symm) ?_
  refine jr.aload_n rfl rfl ?_
  refine jr.iload_n rfl rfl ?_
  refine jr.iconst rfl ?_
  refine jr.iadd rfl ?_
  refine jr.ials (i := (i + 3)) v3 rfl (by decide) hA0 (by omega) (by omega) (by omega) (by rw [← e3]; exact (Int32.ofInt_toInt _).symm) ?_
  refine jr.aload_n rfl rfl ?_
  refine jr.iload_n rfl rfl ?_
  refine jr.iconst rfl ?_
  refine jr.iadd rfl ?_
  refine jr.ials (i := (i + 4)) v4 rfl (by decide) hA0 (by omega) (by omega) (by omega) (by rw [← e4]; exact (Int32.ofInt_toInt _).symm) ?_
  refine jr.aload_n rfl rfl ?_
  refine jr.iload_n rfl rfl ?_
  refine jr.iconst rfl ?_
  refine jr.iadd rfl ?_
  refine jr.ials (i := (i + 5)) v5 rfl (by decide) hA0 (by omega) (by omega) (by omega) (by rw [← e5]; exact (Int32.ofInt_toInt _).symm) ?_
  refine jr_v rfl rfl (Or.inl rfl) rfl rfl (nlt rfl) rfl ⟨rfl, Nat.le_of_ble_eq_true rfl, Nat.le_of_ble_eq_true rfl⟩ rfl (jc.deep (r_feed_x rv1.1 rv1.2.1 rv1.2.2.1 (by omega) (by omega) (by omega) (by omega) (by omega) (fun r7 M7 hI hH hF z7 w7 hf hk => ?_)) (Nat.le_of_ble_eq_true rfl))
  have cv2 : CV M7 L S := cv1.z (fun a i ha => hf a i (by omega) (by omega))
  have rv2 : RV M7 L2 S := ⟨hI, hH, hF, (RG1.fr rv1.2.2.2.1 (fun a i ha => hf a i (rG_ne ha rfl) (rG_ne ha rfl))), by rw [show M7 650 = M6 650 from funext (fun i => hf 650 i (nne rfl) (nne rfl))]; exact rv1.2.2.2.2.1, (MC.fr rv1.2.2.2.2.2.1 (fun i => hf 652 i (nne rfl) (nne rfl)) (fun i => hf 653 i (nne rfl) (nne rfl)) (fun i => hf 654 i (nne rfl) (nne rfl)) (fun i => hf 655 i (nne rfl) (nne rfl)) (hk 82 (zne rfl))), (AS.fr rv1.2.2.2.2.2.2.1 (fun i => hf 685 i (nne rfl) (nne rfl)) (hk 112 (zne rfl))), ((hk 2 (zne rfl)).trans rv1.2.2.2.2.2.2.2.1), X7.fr rv1.2.2.2.2.2.2.2.2 (fun i => hf 647 i (nne rfl) (nne rfl))⟩
  have ho := op_feed rd1 rv1.2.2.2.1 rv1.1 hf_M6 w6_0 w6_1 w7 hf hk
  have rd2 : RDA M7 M7 := ho.1.c (fun a i ha => hf a i (by omega) (by omega))
  have heq : r6 = r7 := ho.2
  refine jr.pop rfl rfl ?_
  refine jr.goto rfl rfl ?_
  exact k _ _ (Int.le_refl _) (by omega) (cv2.le (by omega)) (rv2.le (by omega)) rd2
theorem lop_1 {A : Nat → Option (Nat × (Nat → Int32))} [HA A] {Q : Option Value → jm → Prop} {N : Nat} {xs : Nat → Int32} (hA0 : A 0 = some (N, xs)) (hN : N ≤ 4000) {M : jm} {L L2 S i : Int} (cv : CV M L S) (rv : RV M L2 S) (rd : RDA M M) (hS : 0 ≤ S ∧ S ≤ 900000) (hL : 0 ≤ L ∧ L ≤ 1900000000) (hL2 : 0 ≤ L2 ∧ L2 ≤ 1900000000) (hi : 0 ≤ i ∧ i + 6 ≤ N) (k : ∀ (M' : jm) (S' : Int), S ≤ S' → S' ≤ S + 1000 → CV M' (L + 1000000) S' → RV M' (L2 + 2689623) S' → RDA M' M' → jr A 364 xm_law 1328 [(3, .int (Int32.ofInt (i))), (2, .ref (598)), (1, .ref (0)), (0, .ref (1000000))] [] M' Q) : jr A 364 xm_law 271 [(3, .int (Int32.ofInt (i))), (2, .ref (598)), (1, .ref (0)), (0, .ref (1000000))] [] M Q := by
  have hC_M := cv.1
  have hne := cv.2.2.2.1
  have hz4 := cv.2.2.2.2.1
  have hS8 := cv.2.2.2.2.2
  refine jr.aload_n rfl rfl ?_
  refine jr.aload_n rfl rfl ?_
  refine jr.iload_n rfl rfl ?_
  refine jr.iconst rfl ?_
  refine jr.iadd rfl ?_
  obtain ⟨v1, e1⟩ : ∃ z_, (xs (i + 1).toNat).toInt = z_ := ⟨_, rfl⟩
  have b1 : -2147483648 ≤ v1 ∧ v1 ≤ 2147483647 := by rw [← e1]; exact jb_any _
  refine jr.ials (i := (i + 1)) v1 rfl (by decide) hA0 (by omega) (by omega) (by omega) (by rw [← e1]; exact (Int32.ofInt_toInt _).symm) ?_
  refine jr_v rfl rfl (Or.inl rfl) rfl rfl (nlt rfl) rfl ⟨rfl, Nat.le_of_ble_eq_true rfl, Nat.le_of_ble_eq_true rfl⟩ rfl (jc.deep (c_PacketWall_end_x cv.1 (FR.rfl _ M) (by omega) rfl (fun r2 M2 hC_M2 hf_M2 z2 w2_0 => ?_)) (Nat.le_of_ble_eq_true rfl))
  have cv1 : CV M2 L S := ⟨hC_M2, (cv.2.1.fr hf_M2 rfl), (cv.2.2.1.fr cv.1 hf_M2 rfl), (by rw [hf_M2.g (show kd 413 = 44 from rfl) rfl, hf_M2.g (show kd 421 = 22 from rfl) rfl]; exact cv.2.2.2.1), ((hf_M2.g (show kd 421 = 22 from rfl) rfl).trans cv.2.2.2.2.1), ((hf_M2.g (show kd 0 = 35 from rfl) rfl).trans cv.2.2.2.2.2)⟩
  have rv1 : RV M2 L2 S := RV.tr rv (fun a i ha => hf_M2.g (kd_hi ha) rfl)
  have rd1 : RDA M M2 := rd.rr rv.2.2.2.1 rv.1 (fun a i ha => hf_M2.g (kd_hi ha) rfl)
  refine jr.pop rfl rfl ?_
  refine jr.aload_n rfl rfl ?_
  refine jr.aload_n rfl rfl ?_
  refine jr.iload_n rfl rfl ?_
  refine jr.iconst rfl ?_
  refine jr.iadd rfl ?_
  refine jr.ials (i := (i + 1)) v1 rfl (by decide) hA0 (by omega) (by omega) (by omega) (by rw [← e1]; exact (Int32.ofInt_toInt _).symm) ?_
  refine jr_v rfl rfl (Or.inl rfl) rfl rfl (nlt rfl) rfl ⟨rfl, Nat.le_of_ble_eq_true rfl, Nat.le_of_ble_eq_true rfl⟩ rfl (jc.deep (r_end_x rv1.1 rv1.2.1 rv1.2.2.1 (by omega) (fun r3 M3 hI hH hF z3 w3 hf hk => ?_)) (Nat.le_of_ble_eq_true rfl))
  have cv2 : CV M3 L S := cv1.z (fun a i ha => hf a i (by omega))
  have rv2 : RV M3 L2 S := ⟨hI, hH, hF, (RG1.fr rv1.2.2.2.1 (fun a i ha => hf a i (rG_ne ha rfl))), by rw [show M3 650 = M2 650 from funext (fun i => hf 650 i (nne rfl))]; exact rv1.2.2.2.2.1, (MC.fr rv1.2.2.2.2.2.1 (fun i => hf 652 i (nne rfl)) (fun i => hf 653 i (nne rfl)) (fun i => hf 654 i (nne rfl)) (fun i => hf 655 i (nne rfl)) (hk 82 (zne rfl))), (AS.fr rv1.2.2.2.2.2.2.1 (fun i => hf 685 i (nne rfl)) (hk 112 (zne rfl))), ((hk 2 (zne rfl)).trans rv1.2.2.2.2.2.2.2.1), X7.fr rv1.2.2.2.2.2.2.2.2 (fun i => hf 647 i (nne rfl))⟩
  have ho := op_end rd1 rv1.2.2.2.1 rv1.1 hf_M2 w2_0 w3 hf hk
  have rd2 : RDA M3 M3 := ho.1.c (fun a i ha => hf a i (by omega))
  have heq : r2 = r3 := ho.2
  refine jr.pop rfl rfl ?_
  refine jr.goto rfl rfl ?_
  exact k _ _ (Int.le_refl _) (by omega) (cv2.le (by omega)) (rv2.le (by omega)) rd2
theorem lop_2 {A : Nat → Option (Nat × (Nat → Int32))} [HA A] {Q : Option Value → jm → Prop} {N : Nat} {xs : Nat → Int32} (hA0 : A 0 = some (N, xs)) (hN : N ≤ 4000) {M : jm} {L L2 S i : Int} (cv : CV M L S) (rv : RV M L2 S) (rd : RDA M M) (hS : 0 ≤ S ∧ S ≤ 900000) (hL : 0 ≤ L ∧ L ≤ 1900000000) (hL2 : 0 ≤ L2 ∧ L2 ≤ 1900000000) (hi : 0 ≤ i ∧ i + 6 ≤ N) (k : ∀ (M' : jm) (S' : Int), S ≤ S' → S' ≤ S + 1000 → CV M' (L + 1000000) S' → RV M' (L2 + 2689623) S' → RDA M' M' → jr A 364 xm_law 1328 [(3, .int (Int32.ofInt (i))), (2, .ref (598)), (1, .ref (0)), (0, .ref (1000000))] [] M' Q) : jr A 364 xm_law 294 [(3, .int (Int32.ofInt (i))), (2, .ref (598)), (1, .ref (0)), (0, .ref (1000000))] [] M Q := by
  have hC_M := cv.1
  have hne := cv.2.2.2.1
  have hz4 := cv.2.2.2.2.1
  have hS8 := cv.2.2.2.2.2
  refine jr.aload_n rfl rfl ?_
  refine jr.aload_n rfl rfl ?_
  refine jr.iload_n rfl rfl ?_
  refine jr.iconst rfl ?_
  refine jr.iadd rfl ?_
  obtain ⟨v1, e1⟩ : ∃ z_, (xs (i + 1).toNat).toInt = z_ := ⟨_, rfl⟩
  have b1 : -2147483648 ≤ v1 ∧ v1 ≤ 2147483647 := by rw [← e1]; exact jb_any _
  refine jr.ials (i := (i + 1)) v1 rfl (by decide) hA0 (by omega) (by omega) (by omega) (by rw [← e1]; exact (Int32.ofInt_toInt _).symm) ?_
  refine jr_v rfl rfl (Or.inl rfl) rfl rfl (nlt rfl) rfl ⟨rfl, Nat.le_of_ble_eq_true rfl, Nat.le_of_ble_eq_true rfl⟩ rfl (jc.deep (c_PacketWall_packet_x cv.1 (FR.rfl _ M) (by omega) rfl rfl (fun r2 M2 hC_M2 hf_M2 z2 w2_0 => ?_)) (Nat.le_of_ble_eq_true rfl))
  have cv1 : CV M2 L S := ⟨hC_M2, (cv.2.1.fr hf_M2 rfl), (cv.2.2.1.fr cv.1 hf_M2 rfl), (by rw [hf_M2.g (show kd 413 = 44 from rfl) rfl, hf_M2.g (show kd 421 = 22 from rfl) rfl]; exact cv.2.2.2.1), ((hf_M2.g (show kd 421 = 22 from rfl) rfl).trans cv.2.2.2.2.1), ((hf_M2.g (show kd 0 = 35 from rfl) rfl).trans cv.2.2.2.2.2)⟩
  have rv1 : RV M2 L2 S := RV.tr rv (fun a i ha => hf_M2.g (kd_hi ha) rfl)
  have rd1 : RDA M M2 := rd.rr rv.2.2.2.1 rv.1 (fun a i ha => hf_M2.g (kd_hi ha) rfl)
  refine jr.pop rfl rfl ?_
  refine jr.aload_n rfl rfl ?_
  refine jr.aload_n rfl rfl ?_
  refine jr.iload_n rfl rfl ?_
  refine jr.iconst rfl ?_
  refine jr.iadd rfl ?_
  refine jr.ials (i := (i + 1)) v1 rfl (by decide) hA0 (by omega) (by omega) (by omega) (by rw [← e1]; exact (Int32.ofInt_toInt _).symm) ?_
  refine jr_v rfl rfl (Or.inl rfl) rfl rfl (nlt rfl) rfl ⟨rfl, Nat.le_of_ble_eq_true rfl, Nat.le_of_ble_eq_true rfl⟩ rfl (jc.deep (r_packet_x rv1.1 rv1.2.1 rv1.2.2.1 (by omega) (fun r3 M3 hI hH hF z3 w3 hf hk => ?_)) (Nat.le_of_ble_eq_true rfl))
  have cv2 : CV M3 L S := cv1.z (fun a i ha => hf a i (by omega) (by omega) (by omega) (by omega))
  have rv2 : RV M3 L2 S := ⟨hI, hH, hF, (RG1.fr rv1.2.2.2.1 (fun a i ha => hf a i (rG_ne ha rfl) (rG_ne ha rfl) (rG_ne ha rfl) (rG_ne ha rfl))), by rw [show M3 650 = M2 650 from funext (fun i => hf 650 i (nne rfl) (nne rfl) (nne rfl) (nne rfl))]; exact rv1.2.2.2.2.1, (MC.fr rv1.2.2.2.2.2.1 (fun i => hf 652 i (nne rfl) (nne rfl) (nne rfl) (nne rfl)) (fun i => hf 653 i (nne rfl) (nne rfl) (nne rfl) (nne rfl)) (fun i => hf 654 i (nne rfl) (nne rfl) (nne rfl) (nne rfl)) (fun i => hf 655 i (nne rfl) (nne rfl) (nne rfl) (nne rfl)) (hk 82 (zne rfl))), (AS.fr rv1.2.2.2.2.2.2.1 (fun i => hf 685 i (nne rfl) (nne rfl) (nne rfl) (nne rfl)) (hk 112 (zne rfl))), ((hk 2 (zne rfl)).trans rv1.2.2.2.2.2.2.2.1), X7.fr rv1.2.2.2.2.2.2.2.2 (fun i => hf 647 i (nne rfl) (nne rfl) (nne rfl) (nne rfl))⟩
  have ho := op_packet rd1 rv1.2.2.2.1 rv1.1 hf_M2 w2_0 w3 hf hk
  have rd2 : RDA M3 M3 := ho.1.c (fun a i ha => hf a i (by omega) (by omega) (by omega) (by omega))
  have heq : r2 = r3 := ho.2
  refine jr.pop rfl rfl ?_
  refine jr.goto rfl rfl ?_
  exact k _ _ (Int.le_refl _) (by omega) (cv2.le (by omega)) (rv2.le (by omega)) rd2
theorem lop_3 {A : Nat → Option (Nat × (Nat → Int32))} [HA A] {Q : Option Value → jm → Prop} {N : Nat} {xs : Nat → Int32} (hA0 : A 0 = some (N, xs)) (hN : N ≤ 4000) {M : jm} {L L2 S i : Int} (cv : CV M L S) (rv : RV M L2 S) (rd : RDA M M) (hS : 0 ≤ S ∧ S ≤ 900000) (hL : 0 ≤ L ∧ L ≤ 1900000000) (hL2 : 0 ≤ L2 ∧ L2 ≤ 1900000000) (hi : 0 ≤ i ∧ i + 6 ≤ N) (k : ∀ (M' : jm) (S' : Int), S ≤ S' → S' ≤ S + 1000 → CV M' (L + 1000000) S' → RV M' (L2 + 2689623) S' → RDA M' M' → jr A 364 xm_law 1328 [(3, .int (Int32.ofInt (i))), (2, .ref (598)), (1, .ref (0)), (0, .ref (1000000))] [] M' Q) : jr A 364 xm_law 317 [(3, .int (Int32.ofInt (i))), (2, .ref (598)), (1, .ref (0)), (0, .ref (1000000))] [] M Q := by
  have hC_M := cv.1
  have hne := cv.2.2.2.1
  have hz4 := cv.2.2.2.2.1
  have hS8 := cv.2.2.2.2.2
  refine jr.aload_n rfl rfl ?_
  refine jr.aload_n rfl rfl ?_
  refine jr.iload_n rfl rfl ?_
  refine jr.iconst rfl ?_
  refine jr.iadd rfl ?_
  obtain ⟨v1, e1⟩ : ∃ z_, (xs (i + 1).toNat).toInt = z_ := ⟨_, rfl⟩
  have b1 : -2147483648 ≤ v1 ∧ v1 ≤ 2147483647 := by rw [← e1]; exact jb_any _
  refine jr.ials (i := (i + 1)) v1 rfl (by decide) hA0 (by omega) (by omega) (by omega) (by rw [← e1]; exact (Int32.ofInt_toInt _).symm) ?_
  refine jr_v rfl rfl (Or.inl rfl) rfl rfl (nlt rfl) rfl ⟨rfl, Nat.le_of_ble_eq_true rfl, Nat.le_of_ble_eq_true rfl⟩ rfl (jc.deep (c_PacketWall_drop_x cv.1 (FR.rfl _ M) (by omega) rfl (fun r2 M2 hC_M2 hf_M2 z2 w2_0 => ?_)) (Nat.le_of_ble_eq_true rfl))
  have cv1 : CV M2 L S := ⟨hC_M2, (cv.2.1.fr hf_M2 rfl), (cv.2.2.1.fr cv.1 hf_M2 rfl), (by rw [hf_M2.g (show kd 413 = 44 from rfl) rfl, hf_M2.g (show kd 421 = 22 from rfl) rfl]; exact cv.2.2.2.1), ((hf_M2.g (show kd 421 = 22 from rfl) rfl).trans cv.2.2.2.2.1), ((hf_M2.g (show kd 0 = 35 from rfl) rfl).trans cv.2.2.2.2.2)⟩
  have rv1 : RV M2 L2 S := RV.tr rv (fun a i ha => hf_M2.g (kd_hi ha) rfl)
  have rd1 : RDA M M2 := rd.rr rv.2.2.2.1 rv.1 (fun a i ha => hf_M2.g (kd_hi ha) rfl)
  refine jr.pop rfl rfl ?_
  refine jr.aload_n rfl rfl ?_
  refine jr.aload_n rfl rfl ?_
  refine jr.iload_n rfl rfl ?_
  refine jr.iconst rfl ?_
  refine jr.iadd rfl ?_
  refine jr.ials (i := (i + 1)) v1 rfl (by decide) hA0 (by omega) (by omega) (by omega) (by rw [← e1]; exact (Int32.ofInt_toInt _).symm) ?_
  refine jr_v rfl rfl (Or.inl rfl) rfl rfl (nlt rfl) rfl ⟨rfl, Nat.le_of_ble_eq_true rfl, Nat.le_of_ble_eq_true rfl⟩ rfl (jc.deep (r_drop_x rv1.1 rv1.2.1 rv1.2.2.1 (by omega) (fun r3 M3 hI hH hF z3 w3 hf hk => ?_)) (Nat.le_of_ble_eq_true rfl))
  have cv2 : CV M3 L S := cv1.z (fun a i ha => hf a i (by omega) (by omega))
  have rv2 : RV M3 L2 S := ⟨hI, hH, hF, (RG1.fr rv1.2.2.2.1 (fun a i ha => hf a i (rG_ne ha rfl) (rG_ne ha rfl))), by rw [show M3 650 = M2 650 from funext (fun i => hf 650 i (nne rfl) (nne rfl))]; exact rv1.2.2.2.2.1, (MC.fr rv1.2.2.2.2.2.1 (fun i => hf 652 i (nne rfl) (nne rfl)) (fun i => hf 653 i (nne rfl) (nne rfl)) (fun i => hf 654 i (nne rfl) (nne rfl)) (fun i => hf 655 i (nne rfl) (nne rfl)) (hf 598 82 (nne rfl) (nne rfl))), (AS.fr rv1.2.2.2.2.2.2.1 (fun i => hf 685 i (nne rfl) (nne rfl)) (hf 598 112 (nne rfl) (nne rfl))), ((hf 598 2 (nne rfl) (nne rfl)).trans rv1.2.2.2.2.2.2.2.1), X7.fr rv1.2.2.2.2.2.2.2.2 (fun i => hf 647 i (nne rfl) (nne rfl))⟩
  have ho := op_drop rd1 rv1.2.2.2.1 rv1.1 hf_M2 w2_0 w3 hf hk
  have rd2 : RDA M3 M3 := ho.1.c (fun a i ha => hf a i (by omega) (by omega))
  have heq : r2 = r3 := ho.2
  refine jr.pop rfl rfl ?_
  refine jr.goto rfl rfl ?_
  exact k _ _ (Int.le_refl _) (by omega) (cv2.le (by omega)) (rv2.le (by omega)) rd2
theorem lop_4 {A : Nat → Option (Nat × (Nat → Int32))} [HA A] {Q : Option Value → jm → Prop} {N : Nat} {xs : Nat → Int32} (hA0 : A 0 = some (N, xs)) (hN : N ≤ 4000) {M : jm} {L L2 S i : Int} (cv : CV M L S) (rv : RV M L2 S) (rd : RDA M M) (hS : 0 ≤ S ∧ S ≤ 900000) (hL : 0 ≤ L ∧ L ≤ 1900000000) (hL2 : 0 ≤ L2 ∧ L2 ≤ 1900000000) (hi : 0 ≤ i ∧ i + 6 ≤ N) (k : ∀ (M' : jm) (S' : Int), S ≤ S' → S' ≤ S + 1000 → CV M' (L + 1000000) S' → RV M' (L2 + 2689623) S' → RDA M' M' → jr A 364 xm_law 1328 [(3, .int (Int32.ofInt (i))), (2, .ref (598)), (1, .ref (0)), (0, .ref (1000000))] [] M' Q) : jr A 364 xm_law 340 [(3, .int (Int32.ofInt (i))), (2, .ref (598)), (1, .ref (0)), (0, .ref (1000000))] [] M Q := by
  have hC_M := cv.1
  have hne := cv.2.2.2.1
  have hz4 := cv.2.2.2.2.1
  have hS8 := cv.2.2.2.2.2
  refine jr.aload_n rfl rfl ?_
  refine jr.aload_n rfl rfl ?_
  refine jr.iload_n rfl rfl ?_
  refine jr.iconst rfl ?_
  refine jr.iadd rfl ?_
  obtain ⟨v1, e1⟩ : ∃ z_, (xs (i + 1).toNat).toInt = z_ := ⟨_, rfl⟩
  have b1 : -2147483648 ≤ v1 ∧ v1 ≤ 2147483647 := by rw [← e1]; exact jb_any _
  refine jr.ials (i := (i + 1)) v1 rfl (by decide) hA0 (by omega) (by omega) (by omega) (by rw [← e1]; exact (Int32.ofInt_toInt _).symm) ?_
  refine jr.aload_n rfl rfl ?_
  refine jr.iload_n rfl rfl ?_
  refine jr.iconst rfl ?_
  refine jr.iadd rfl ?_
  obtain ⟨v2, e2⟩ : ∃ z_, (xs (i + 2).toNat).toInt = z_ := ⟨_, rfl⟩
  have b2 : -2147483648 ≤ v2 ∧ v2 ≤ 2147483647 := by rw [← e2]; exact jb_any _
  refine jr.ials (i := (i + 2)) v2 rfl (by decide) hA0 (by omega) (by omega) (by omega) (by rw [← e2]; exact (Int32.ofInt_toInt _).symm) ?_
  refine jr_v rfl rfl (Or.inl rfl) rfl rfl (nlt rfl) rfl ⟨rfl, Nat.le_of_ble_eq_true rfl, Nat.le_of_ble_eq_true rfl⟩ rfl (jc.deep (c_PacketWall_at_x cv.1 (by omega) (by omega) (fun r3 z3 w3_0 => ?_)) (Nat.le_of_ble_eq_true rfl))
  refine jr.pop rfl rfl ?_
  refine jr.aload_n rfl rfl ?_
  refine jr.aload_n rfl rfl ?_
  refine jr.iload_n rfl rfl ?_
  refine jr.iconst rfl ?_
  refine jr.iadd rfl ?_
  refine jr.ials (i := (i + 1)) v1 rfl (by decide) hA0 (by omega) (by omega) (by omega) (by rw [← e1]; exact (Int32.ofInt_toInt _).symm) ?_
  refine jr.aload_n rfl rfl ?_
  refine jr.iload_n rfl rfl ?_
  refine jr.iconst rfl ?_
  refine jr.iadd rfl ?_
  refine jr.ials (i := (i + 2)) v2 rfl (by decide) hA0 (by omega) (by omega) (by omega) (by rw [← e2]; exact (Int32.ofInt_toInt _).symm) ?_
  refine jr_v rfl rfl (Or.inl rfl) rfl rfl (nlt rfl) rfl ⟨rfl, Nat.le_of_ble_eq_true rfl, Nat.le_of_ble_eq_true rfl⟩ rfl (jc.deep (r_at_x rv.1 rv.2.1 rv.2.2.1 (by omega) (by omega) (fun r4 M4 hI hH hF z4 w4 hM hf hk => ?_)) (Nat.le_of_ble_eq_true rfl))
  have cv2 : CV M4 L S := by rw [hM]; exact cv
  have rv2 : RV M4 L2 S := by rw [hM]; exact rv
  have heq : r3 = r4 := op_at rd rv.1 w3_0 w4
  have rd2 : RDA M4 M4 := by rw [hM]; exact rd
  refine jr.pop rfl rfl ?_
  refine jr.goto rfl rfl ?_
  exact k _ _ (Int.le_refl _) (by omega) (cv2.le (by omega)) (rv2.le (by omega)) rd2
theorem lop_5 {A : Nat → Option (Nat × (Nat → Int32))} [HA A] {Q : Option Value → jm → Prop} {N : Nat} {xs : Nat → Int32} (hA0 : A 0 = some (N, xs)) (hN : N ≤ 4000) {M : jm} {L L2 S i : Int} (cv : CV M L S) (rv : RV M L2 S) (rd : RDA M M) (hS : 0 ≤ S ∧ S ≤ 900000) (hL : 0 ≤ L ∧ L ≤ 1900000000) (hL2 : 0 ≤ L2 ∧ L2 ≤ 1900000000) (hi : 0 ≤ i ∧ i + 6 ≤ N) (k : ∀ (M' : jm) (S' : Int), S ≤ S' → S' ≤ S + 1000 → CV M' (L + 1000000) S' → RV M' (L2 + 2689623) S' → RDA M' M' → jr A 364 xm_law 1328 [(3, .int (Int32.ofInt (i))), (2, .ref (598)), (1, .ref (0)), (0, .ref (1000000))] [] M' Q) : jr A 364 xm_law 373 [(3, .int (Int32.ofInt (i))), (2, .ref (598)), (1, .ref (0)), (0, .ref (1000000))] [] M Q := by
  have hC_M := cv.1
  have hne := cv.2.2.2.1
  have hz4 := cv.2.2.2.2.1
  have hS8 := cv.2.2.2.2.2
  refine jr.aload_n rfl rfl ?_
  refine jr.aload_n rfl rfl ?_
  refine jr.iload_n rfl rfl ?_
  refine jr.iconst rfl ?_
  refine jr.iadd rfl ?_
  obtain ⟨v1, e1⟩ : ∃ z_, (xs (i + 1).toNat).toInt = z_ := ⟨_, rfl⟩
  have b1 : -2147483648 ≤ v1 ∧ v1 ≤ 2147483647 := by rw [← e1]; exact jb_any _
  refine jr.ials (i := (i + 1)) v1 rfl (by decide) hA0 (by omega) (by omega) (by omega) (by rw [← e1]; exact (Int32.ofInt_toInt _).symm) ?_
  refine jr_v rfl rfl (Or.inl rfl) rfl rfl (nlt rfl) rfl ⟨rfl, Nat.le_of_ble_eq_true rfl, Nat.le_of_ble_eq_true rfl⟩ rfl (jc.deep (c_PacketWall_read_x cv.1 (FR.rfl _ M) (by omega) rfl (fun hx => rd.2.1.b rv.1 _ hx.1 (by omega)) (fun r2 M2 hC_M2 hf_M2 z2 w2_0 => ?_)) (Nat.le_of_ble_eq_true rfl))
  have cv1 : CV M2 L S := ⟨hC_M2, (cv.2.1.fr hf_M2 rfl), (cv.2.2.1.fr cv.1 hf_M2 rfl), (by rw [hf_M2.g (show kd 413 = 44 from rfl) rfl, hf_M2.g (show kd 421 = 22 from rfl) rfl]; exact cv.2.2.2.1), ((hf_M2.g (show kd 421 = 22 from rfl) rfl).trans cv.2.2.2.2.1), ((hf_M2.g (show kd 0 = 35 from rfl) rfl).trans cv.2.2.2.2.2)⟩
  have rv1 : RV M2 L2 S := RV.tr rv (fun a i ha => hf_M2.g (kd_hi ha) rfl)
  have rd1 : RDA M M2 := rd.rr rv.2.2.2.1 rv.1 (fun a i ha => hf_M2.g (kd_hi ha) rfl)
  rw [rf_hi (fun a i ha => hf_M2.g (kd_hi ha) rfl)] at w2_0
  refine jr.pop rfl rfl ?_
  refine jr.aload_n rfl rfl ?_
  refine jr.aload_n rfl rfl ?_
  refine jr.iload_n rfl rfl ?_
  refine jr.iconst rfl ?_
  refine jr.iadd rfl ?_
  refine jr.ials (i := (i + 1)) v1 rfl (by decide) hA0 (by omega) (by omega) (by omega) (by rw [← e1]; exact (Int32.ofInt_toInt _).symm) ?_
  refine jr_v rfl rfl (Or.inl rfl) rfl rfl (nlt rfl) rfl ⟨rfl, Nat.le_of_ble_eq_true rfl, Nat.le_of_ble_eq_true rfl⟩ rfl (jc.deep (r_read_x rv1.1 rv1.2.1 rv1.2.2.1 (by omega) (fun r3 M3 hI hH hF z3 w3 hf hk => ?_)) (Nat.le_of_ble_eq_true rfl))
  have cv2 : CV M3 L S := cv1.z (fun a i ha => hf a i (by omega) (by omega) (by omega) (by omega))
  have rv2 : RV M3 L2 S := ⟨hI, hH, hF, (RG1.fr rv1.2.2.2.1 (fun a i ha => hf a i (rG_ne ha rfl) (rG_ne ha rfl) (rG_ne ha rfl) (rG_ne ha rfl))), by rw [show M3 650 = M2 650 from funext (fun i => hf 650 i (nne rfl) (nne rfl) (nne rfl) (nne rfl))]; exact rv1.2.2.2.2.1, (MC.fr rv1.2.2.2.2.2.1 (fun i => hf 652 i (nne rfl) (nne rfl) (nne rfl) (nne rfl)) (fun i => hf 653 i (nne rfl) (nne rfl) (nne rfl) (nne rfl)) (fun i => hf 654 i (nne rfl) (nne rfl) (nne rfl) (nne rfl)) (fun i => hf 655 i (nne rfl) (nne rfl) (nne rfl) (nne rfl)) (hk 82 (zne rfl) (zne rfl) (zne rfl) (zne rfl) (zne rfl) (zne rfl) (zne rfl) (zne rfl))), (AS.fr rv1.2.2.2.2.2.2.1 (fun i => hf 685 i (nne rfl) (nne rfl) (nne rfl) (nne rfl)) (hk 112 (zne rfl) (zne rfl) (zne rfl) (zne rfl) (zne rfl) (zne rfl) (zne rfl) (zne rfl))), ((hk 2 (zne rfl) (zne rfl) (zne rfl) (zne rfl) (zne rfl) (zne rfl) (zne rfl) (zne rfl)).trans rv1.2.2.2.2.2.2.2.1), X7.fr rv1.2.2.2.2.2.2.2.2 (fun i => hf 647 i (nne rfl) (nne rfl) (nne rfl) (nne rfl))⟩
  have ho := op_read rd1 rv1.2.2.2.1 rv1.1 hf_M2 w2_0 w3 hf hk hI
  have rd2 : RDA M3 M3 := ho.1.c (fun a i ha => hf a i (by omega) (by omega) (by omega) (by omega))
  have heq : r2 = r3 := ho.2
  refine jr.pop rfl rfl ?_
  refine jr.goto rfl rfl ?_
  exact k _ _ (Int.le_refl _) (by omega) (cv2.le (by omega)) (rv2.le (by omega)) rd2
theorem lop_6 {A : Nat → Option (Nat × (Nat → Int32))} [HA A] {Q : Option Value → jm → Prop} {N : Nat} {xs : Nat → Int32} (hA0 : A 0 = some (N, xs)) (hN : N ≤ 4000) {M : jm} {L L2 S i : Int} (cv : CV M L S) (rv : RV M L2 S) (rd : RDA M M) (hS : 0 ≤ S ∧ S ≤ 900000) (hL : 0 ≤ L ∧ L ≤ 1900000000) (hL2 : 0 ≤ L2 ∧ L2 ≤ 1900000000) (hi : 0 ≤ i ∧ i + 6 ≤ N) (k : ∀ (M' : jm) (S' : Int), S ≤ S' → S' ≤ S + 1000 → CV M' (L + 1000000) S' → RV M' (L2 + 2689623) S' → RDA M' M' → jr A 364 xm_law 1328 [(3, .int (Int32.ofInt (i))), (2, .ref (598)), (1, .ref (0)), (0, .ref (1000000))] [] M' Q) : jr A 364 xm_law 396 [(3, .int (Int32.ofInt (i))), (2, .ref (598)), (1, .ref (0)), (0, .ref (1000000))] [] M Q := by
  have hC_M := cv.1
  have hne := cv.2.2.2.1
  have hz4 := cv.2.2.2.2.1
  have hS8 := cv.2.2.2.2.2
  refine jr.aload_n rfl rfl ?_
  refine jr.aload_n rfl rfl ?_
  refine jr.iload_n rfl rfl ?_
  refine jr.iconst rfl ?_
  refine jr.iadd rfl ?_
  obtain ⟨v1, e1⟩ : ∃ z_, (xs (i + 1).toNat).toInt = z_ := ⟨_, rfl⟩
  have b1 : -2147483648 ≤ v1 ∧ v1 ≤ 2147483647 := by rw [← e1]; exact jb_any _
  refine jr.ials (i := (i + 1)) v1 rfl (by decide) hA0 (by omega) (by omega) (by omega) (by rw [← e1]; exact (Int32.ofInt_toInt _).symm) ?_
  refine jr_v rfl rfl (Or.inl rfl) rfl rfl (nlt rfl) rfl ⟨rfl, Nat.le_of_ble_eq_true rfl, Nat.le_of_ble_eq_true rfl⟩ rfl (jc.deep (c_PacketWall_finding_x cv.1 (by omega) (fun r2 z2 w2_0 => ?_)) (Nat.le_of_ble_eq_true rfl))
  refine jr.pop rfl rfl ?_
  refine jr.aload_n rfl rfl ?_
  refine jr.aload_n rfl rfl ?_
  refine jr.iload_n rfl rfl ?_
  refine jr.iconst rfl ?_
  refine jr.iadd rfl ?_
  refine jr.ials (i := (i + 1)) v1 rfl (by decide) hA0 (by omega) (by omega) (by omega) (by rw [← e1]; exact (Int32.ofInt_toInt _).symm) ?_
  refine jr_v rfl rfl (Or.inl rfl) rfl rfl (nlt rfl) rfl ⟨rfl, Nat.le_of_ble_eq_true rfl, Nat.le_of_ble_eq_true rfl⟩ rfl (jc.deep (r_finding_x rv.1 rv.2.1 rv.2.2.1 (by omega) (fun r3 M3 hI hH hF z3 w3 hM hf hk => ?_)) (Nat.le_of_ble_eq_true rfl))
  have cv2 : CV M3 L S := by rw [hM]; exact cv
  have rv2 : RV M3 L2 S := by rw [hM]; exact rv
  have heq : r2 = r3 := op_finding rd w2_0 w3
  have rd2 : RDA M3 M3 := by rw [hM]; exact rd
  refine jr.pop rfl rfl ?_
  refine jr.goto rfl rfl ?_
  exact k _ _ (Int.le_refl _) (by omega) (cv2.le (by omega)) (rv2.le (by omega)) rd2
theorem lop_7 {A : Nat → Option (Nat × (Nat → Int32))} [HA A] {Q : Option Value → jm → Prop} {N : Nat} {xs : Nat → Int32} (hA0 : A 0 = some (N, xs)) (hN : N ≤ 4000) {M : jm} {L L2 S i : Int} (cv : CV M L S) (rv : RV M L2 S) (rd : RDA M M) (hS : 0 ≤ S ∧ S ≤ 900000) (hL : 0 ≤ L ∧ L ≤ 1900000000) (hL2 : 0 ≤ L2 ∧ L2 ≤ 1900000000) (hi : 0 ≤ i ∧ i + 6 ≤ N) (k : ∀ (M' : jm) (S' : Int), S ≤ S' → S' ≤ S + 1000 → CV M' (L + 1000000) S' → RV M' (L2 + 2689623) S' → RDA M' M' → jr A 364 xm_law 1328 [(3, .int (Int32.ofInt (i))), (2, .ref (598)), (1, .ref (0)), (0, .ref (1000000))] [] M' Q) : jr A 364 xm_law 419 [(3, .int (Int32.ofInt (i))), (2, .ref (598)), (1, .ref (0)), (0, .ref (1000000))] [] M Q := by
  have hC_M := cv.1
  have hne := cv.2.2.2.1
  have hz4 := cv.2.2.2.2.1
  have hS8 := cv.2.2.2.2.2
  refine jr.aload_n rfl rfl ?_
  refine jr.aload_n rfl rfl ?_
  refine jr.iload_n rfl rfl ?_
  refine jr.iconst rfl ?_
  refine jr.iadd rfl ?_
  obtain ⟨v1, e1⟩ : ∃ z_, (xs (i + 1).toNat).toInt = z_ := ⟨_, rfl⟩
  have b1 : -2147483648 ≤ v1 ∧ v1 ≤ 2147483647 := by rw [← e1]; exact jb_any _
  refine jr.ials (i := (i + 1)) v1 rfl (by decide) hA0 (by omega) (by omega) (by omega) (by rw [← e1]; exact (Int32.ofInt_toInt _).symm) ?_
  refine jr.aload_n rfl rfl ?_
  refine jr.iload_n rfl rfl ?_
  refine jr.iconst rfl ?_
  refine jr.iadd rfl ?_
  obtain ⟨v2, e2⟩ : ∃ z_, (xs (i + 2).toNat).toInt = z_ := ⟨_, rfl⟩
  have b2 : -2147483648 ≤ v2 ∧ v2 ≤ 2147483647 := by rw [← e2]; exact jb_any _
  refine jr.ials (i := (i + 2)) v2 rfl (by decide) hA0 (by omega) (by omega) (by omega) (by rw [← e2]; exact (Int32.ofInt_toInt _).symm) ?_
  refine jr_v rfl rfl (Or.inl rfl) rfl rfl (nlt rfl) rfl ⟨rfl, Nat.le_of_ble_eq_true rfl, Nat.le_of_ble_eq_true rfl⟩ rfl (jc.deep (c_PacketWall_kind_x cv.1 (FR.rfl _ M) (by omega) (by omega) rfl (fun hx => rd.2.1.b rv.1 _ hx.1 (by omega)) (fun r3 M3 hC_M3 hf_M3 z3 w3_0 => ?_)) (Nat.le_of_ble_eq_true rfl))
  have cv1 : CV M3 L S := ⟨hC_M3, (cv.2.1.fr hf_M3 rfl), (cv.2.2.1.fr cv.1 hf_M3 rfl), (by rw [hf_M3.g (show kd 413 = 44 from rfl) rfl, hf_M3.g (show kd 421 = 22 from rfl) rfl]; exact cv.2.2.2.1), ((hf_M3.g (show kd 421 = 22 from rfl) rfl).trans cv.2.2.2.2.1), ((hf_M3.g (show kd 0 = 35 from rfl) rfl).trans cv.2.2.2.2.2)⟩
  have rv1 : RV M3 L2 S := RV.tr rv (fun a i ha => hf_M3.g (kd_hi ha) rfl)
  have rd1 : RDA M M3 := rd.rr rv.2.2.2.1 rv.1 (fun a i ha => hf_M3.g (kd_hi ha) rfl)
  rw [rf_hi (fun a i ha => hf_M3.g (kd_hi ha) rfl)] at w3_0
  refine jr.pop rfl rfl ?_
  refine jr.aload_n rfl rfl ?_
  refine jr.aload_n rfl rfl ?_
  refine jr.iload_n rfl rfl ?_
  refine jr.iconst rfl ?_
  refine jr.iadd rfl ?_
  refine jr.ials (i := (i + 1)) v1 rfl (by decide) hA0 (by omega) (by omega) (by omega) (by rw [← e1]; exact (Int32.ofInt_toInt _).symm) ?_
  refine jr.aload_n rfl rfl ?_
  refine jr.iload_n rfl rfl ?_
  refine jr.iconst rfl ?_
  refine jr.iadd rfl ?_
  refine jr.ials (i := (i + 2)) v2 rfl (by decide) hA0 (by omega) (by omega) (by omega) (by rw [← e2]; exact (Int32.ofInt_toInt _).symm) ?_
  refine jr_v rfl rfl (Or.inl rfl) rfl rfl (nlt rfl) rfl ⟨rfl, Nat.le_of_ble_eq_true rfl, Nat.le_of_ble_eq_true rfl⟩ rfl (jc.deep (r_kind_x rv1.1 rv1.2.1 rv1.2.2.1 (by omega) (by omega) (fun r4 M4 hI hH hF z4 w4 hf hk => ?_)) (Nat.le_of_ble_eq_true rfl))
  have cv2 : CV M4 L S := cv1.z (fun a i ha => hf a i (by omega) (by omega) (by omega) (by omega))
  have rv2 : RV M4 L2 S := ⟨hI, hH, hF, (RG1.fr rv1.2.2.2.1 (fun a i ha => hf a i (rG_ne ha rfl) (rG_ne ha rfl) (rG_ne ha rfl) (rG_ne ha rfl))), by rw [show M4 650 = M3 650 from funext (fun i => hf 650 i (nne rfl) (nne rfl) (nne rfl) (nne rfl))]; exact rv1.2.2.2.2.1, (MC.fr rv1.2.2.2.2.2.1 (fun i => hf 652 i (nne rfl) (nne rfl) (nne rfl) (nne rfl)) (fun i => hf 653 i (nne rfl) (nne rfl) (nne rfl) (nne rfl)) (fun i => hf 654 i (nne rfl) (nne rfl) (nne rfl) (nne rfl)) (fun i => hf 655 i (nne rfl) (nne rfl) (nne rfl) (nne rfl)) (hk 82 (zne rfl) (zne rfl) (zne rfl) (zne rfl))), (AS.fr rv1.2.2.2.2.2.2.1 (fun i => hf 685 i (nne rfl) (nne rfl) (nne rfl) (nne rfl)) (hk 112 (zne rfl) (zne rfl) (zne rfl) (zne rfl))), ((hk 2 (zne rfl) (zne rfl) (zne rfl) (zne rfl)).trans rv1.2.2.2.2.2.2.2.1), X7.fr rv1.2.2.2.2.2.2.2.2 (fun i => hf 647 i (nne rfl) (nne rfl) (nne rfl) (nne rfl))⟩
  have ho := op_kind (z := 0) rd1 rv1.2.2.2.1 rv1.1 hf_M3 w3_0 w4 hf hk
  have rd2 : RDA M4 M4 := ho.1.c (fun a i ha => hf a i (by omega) (by omega) (by omega) (by omega))
  have heq : r3 = r4 := ho.2
  refine jr.pop rfl rfl ?_
  refine jr.goto rfl rfl ?_
  exact k _ _ (Int.le_refl _) (by omega) (cv2.le (by omega)) (rv2.le (by omega)) rd2
theorem lop_8 {A : Nat → Option (Nat × (Nat → Int32))} [HA A] {Q : Option Value → jm → Prop} {N : Nat} {xs : Nat → Int32} (hA0 : A 0 = some (N, xs)) (hN : N ≤ 4000) {M : jm} {L L2 S i : Int} (cv : CV M L S) (rv : RV M L2 S) (rd : RDA M M) (hS : 0 ≤ S ∧ S ≤ 900000) (hL : 0 ≤ L ∧ L ≤ 1900000000) (hL2 : 0 ≤ L2 ∧ L2 ≤ 1900000000) (hi : 0 ≤ i ∧ i + 6 ≤ N) (k : ∀ (M' : jm) (S' : Int), S ≤ S' → S' ≤ S + 1000 → CV M' (L + 1000000) S' → RV M' (L2 + 2689623) S' → RDA M' M' → jr A 364 xm_law 1328 [(3, .int (Int32.ofInt (i))), (2, .ref (598)), (1, .ref (0)), (0, .ref (1000000))] [] M' Q) : jr A 364 xm_law 452 [(3, .int (Int32.ofInt (i))), (2, .ref (598)), (1, .ref (0)), (0, .ref (1000000))] [] M Q := by
  have hC_M := cv.1
  have hne := cv.2.2.2.1
  have hz4 := cv.2.2.2.2.1
  have hS8 := cv.2.2.2.2.2
  refine jr.aload_n rfl rfl ?_
  refine jr.aload_n rfl rfl ?_
  refine jr.iload_n rfl rfl ?_
  refine jr.iconst rfl ?_
  refine jr.iadd rfl ?_
  obtain ⟨v1, e1⟩ : ∃ z_, (xs (i + 1).toNat).toInt = z_ := ⟨_, rfl⟩
  have b1 : -2147483648 ≤ v1 ∧ v1 ≤ 2147483647 := by rw [← e1]; exact jb_any _
  refine jr.ials (i := (i + 1)) v1 rfl (by decide) hA0 (by omega) (by omega) (by omega) (by rw [← e1]; exact (Int32.ofInt_toInt _).symm) ?_
  refine jr.aload_n rfl rfl ?_
  refine jr.iload_n rfl rfl ?_
  refine jr.iconst rfl ?_
  refine jr.iadd rfl ?_
  obtain ⟨v2, e2⟩ : ∃ z_, (xs (i + 2).toNat).toInt = z_ := ⟨_, rfl⟩
  have b2 : -2147483648 ≤ v2 ∧ v2 ≤ 2147483647 := by rw [← e2]; exact jb_any _
  refine jr.ials (i := (i + 2)) v2 rfl (by decide) hA0 (by omega) (by omega) (by omega) (by rw [← e2]; exact (Int32.ofInt_toInt _).symm) ?_
  refine jr.aload_n rfl rfl ?_
  refine jr.iload_n rfl rfl ?_
  refine jr.iconst rfl ?_
  refine jr.iadd rfl ?_
  obtain ⟨v3, e3⟩ : ∃ z_, (xs (i + 3).toNat).toInt = z_ := ⟨_, rfl⟩
  have b3 : -2147483648 ≤ v3 ∧ v3 ≤ 2147483647 := by rw [← e3]; exact jb_any _
  refine jr.ials (i := (i + 3)) v3 rfl (by decide) hA0 (by omega) (by omega) (by omega) (by rw [← e3]; exact (Int32.ofInt_toInt _).symm) ?_
  refine jr_v rfl rfl (Or.inl rfl) rfl rfl (nlt rfl) rfl ⟨rfl, Nat.le_of_ble_eq_true rfl, Nat.le_of_ble_eq_true rfl⟩ rfl (jc.deep (c_PacketWall_field_x cv.1 (FR.rfl _ M) (by omega) (by omega) (by omega) rfl (fun hx => rd.2.1.b rv.1 _ hx.1 (by omega)) (fun r4 M4 hC_M4 hf_M4 z4 w4_0 => ?_)) (Nat.le_of_ble_eq_true rfl))
  have cv1 : CV M4 L S := ⟨hC_M4, (cv.2.1.fr hf_M4 rfl), (cv.2.2.1.fr cv.1 hf_M4 rfl), (by rw [hf_M4.g (show kd 413 = 44 from rfl) rfl, hf_M4.g (show kd 421 = 22 from rfl) rfl]; exact cv.2.2.2.1), ((hf_M4.g (show kd 421 = 22 from rfl) rfl).trans cv.2.2.2.2.1), ((hf_M4.g (show kd 0 = 35 from rfl) rfl).trans cv.2.2.2.2.2)⟩
  have rv1 : RV M4 L2 S := RV.tr rv (fun a i ha => hf_M4.g (kd_hi ha) rfl)
  have rd1 : RDA M M4 := rd.rr rv.2.2.2.1 rv.1 (fun a i ha => hf_M4.g (kd_hi ha) rfl)
  rw [rf_hi (fun a i ha => hf_M4.g (kd_hi ha) rfl)] at w4_0
  refine jr.pop2 rfl ?_
  refine jr.aload_n rfl rfl ?_
  refine jr.aload_n rfl rfl ?_
  refine jr.iload_n rfl rfl ?_
  refine jr.iconst rfl ?_
  refine jr.iadd rfl ?_
  refine jr.ials (i := (i + 1)) v1 rfl (by decide) hA0 (by omega) (by omega) (by omega) (by rw [← e1]; exact (Int32.ofInt_toInt _).symm) ?_
  refine jr.aload_n rfl rfl ?_
  refine jr.iload_n rfl rfl ?_
  refine jr.iconst rfl ?_
  refine jr.iadd rfl ?_
  refine jr.ials (i := (i + 2)) v2 rfl (by decide) hA0 (by omega) (by omega) (by omega) (by rw [← e2]; exact (Int32.ofInt_toInt _).symm) ?_
  refine jr.aload_n rfl rfl ?_
  refine jr.iload_n rfl rfl ?_
  refine jr.iconst rfl ?_
  refine jr.iadd rfl ?_
  refine jr.ials (i := (i + 3)) v3 rfl (by decide) hA0 (by omega) (by omega) (by omega) (by rw [← e3]; exact (Int32.ofInt_toInt _).symm) ?_
  refine jr_v rfl rfl (Or.inl rfl) rfl rfl (nlt rfl) rfl ⟨rfl, Nat.le_of_ble_eq_true rfl, Nat.le_of_ble_eq_true rfl⟩ rfl (jc.deep (r_field_x rv1.1 rv1.2.1 rv1.2.2.1 (by omega) (by omega) (by omega) (fun r5 M5 hI hH hF z5 w5 hf hk => ?_)) (Nat.le_of_ble_eq_true rfl))
  have cv2 : CV M5 L S := cv1.z (fun a i ha => hf a i (by omega) (by omega) (by omega) (by omega))
  have rv2 : RV M5 L2 S := ⟨hI, hH, hF, (RG1.fr rv1.2.2.2.1 (fun a i ha => hf a i (rG_ne ha rfl) (rG_ne ha rfl) (rG_ne ha rfl) (rG_ne ha rfl))), by rw [show M5 650 = M4 650 from funext (fun i => hf 650 i (nne rfl) (nne rfl) (nne rfl) (nne rfl))]; exact rv1.2.2.2.2.1, (MC.fr rv1.2.2.2.2.2.1 (fun i => hf 652 i (nne rfl) (nne rfl) (nne rfl) (nne rfl)) (fun i => hf 653 i (nne rfl) (nne rfl) (nne rfl) (nne rfl)) (fun i => hf 654 i (nne rfl) (nne rfl) (nne rfl) (nne rfl)) (fun i => hf 655 i (nne rfl) (nne rfl) (nne rfl) (nne rfl)) (hk 82 (zne rfl) (zne rfl) (zne rfl) (zne rfl))), (AS.fr rv1.2.2.2.2.2.2.1 (fun i => hf 685 i (nne rfl) (nne rfl) (nne rfl) (nne rfl)) (hk 112 (zne rfl) (zne rfl) (zne rfl) (zne rfl))), ((hk 2 (zne rfl) (zne rfl) (zne rfl) (zne rfl)).trans rv1.2.2.2.2.2.2.2.1), X7.fr rv1.2.2.2.2.2.2.2.2 (fun i => hf 647 i (nne rfl) (nne rfl) (nne rfl) (nne rfl))⟩
  have ho := op_field rd1 rv1.2.2.2.1 rv1.1 hf_M4 w4_0 w5 hf hk
  have rd2 : RDA M5 M5 := ho.1.c (fun a i ha => hf a i (by omega) (by omega) (by omega) (by omega))
  have heq : r4 = r5 := ho.2
  refine jr.pop2 rfl ?_
  refine jr.goto rfl rfl ?_
  exact k _ _ (Int.le_refl _) (by omega) (cv2.le (by omega)) (rv2.le (by omega)) rd2
theorem lop_9 {A : Nat → Option (Nat × (Nat → Int32))} [HA A] {Q : Option Value → jm → Prop} {N : Nat} {xs : Nat → Int32} (hA0 : A 0 = some (N, xs)) (hN : N ≤ 4000) {M : jm} {L L2 S i : Int} (cv : CV M L S) (rv : RV M L2 S) (rd : RDA M M) (hS : 0 ≤ S ∧ S ≤ 900000) (hL : 0 ≤ L ∧ L ≤ 1900000000) (hL2 : 0 ≤ L2 ∧ L2 ≤ 1900000000) (hi : 0 ≤ i ∧ i + 6 ≤ N) (k : ∀ (M' : jm) (S' : Int), S ≤ S' → S' ≤ S + 1000 → CV M' (L + 1000000) S' → RV M' (L2 + 2689623) S' → RDA M' M' → jr A 364 xm_law 1328 [(3, .int (Int32.ofInt (i))), (2, .ref (598)), (1, .ref (0)), (0, .ref (1000000))] [] M' Q) : jr A 364 xm_law 495 [(3, .int (Int32.ofInt (i))), (2, .ref (598)), (1, .ref (0)), (0, .ref (1000000))] [] M Q := by
  have hC_M := cv.1
  have hne := cv.2.2.2.1
  have hz4 := cv.2.2.2.2.1
  have hS8 := cv.2.2.2.2.2
  refine jr.aload_n rfl rfl ?_
  refine jr.aload_n rfl rfl ?_
  refine jr.iload_n rfl rfl ?_
  refine jr.iconst rfl ?_
  refine jr.iadd rfl ?_
  obtain ⟨v1, e1⟩ : ∃ z_, (xs (i + 1).toNat).toInt = z_ := ⟨_, rfl⟩
  have b1 : -2147483648 ≤ v1 ∧ v1 ≤ 2147483647 := by rw [← e1]; exact jb_any _
  refine jr.ials (i := (i + 1)) v1 rfl (by decide) hA0 (by omega) (by omega) (by omega) (by rw [← e1]; exact (Int32.ofInt_toInt _).symm) ?_
  refine jr.aload_n rfl rfl ?_
  refine jr.iload_n rfl rfl ?_
  refine jr.iconst rfl ?_
  refine jr.iadd rfl ?_
  obtain ⟨v2, e2⟩ : ∃ z_, (xs (i + 2).toNat).toInt = z_ := ⟨_, rfl⟩
  have b2 : -2147483648 ≤ v2 ∧ v2 ≤ 2147483647 := by rw [← e2]; exact jb_any _
  refine jr.ials (i := (i + 2)) v2 rfl (by decide) hA0 (by omega) (by omega) (by omega) (by rw [← e2]; exact (Int32.ofInt_toInt _).symm) ?_
  refine jr_v rfl rfl (Or.inl rfl) rfl rfl (nlt rfl) rfl ⟨rfl, Nat.le_of_ble_eq_true rfl, Nat.le_of_ble_eq_true rfl⟩ rfl (jc.deep (c_PacketWall_place_x cv.1 (FR.rfl _ M) (by omega) (by omega) rfl (fun hx => rd.2.1.b rv.1 _ hx.1 (by omega)) (fun r3 M3 hC_M3 hf_M3 z3 w3_0 => ?_)) (Nat.le_of_ble_eq_true rfl))
  have cv1 : CV M3 L S := ⟨hC_M3, (cv.2.1.fr hf_M3 rfl), (cv.2.2.1.fr cv.1 hf_M3 rfl), (by rw [hf_M3.g (show kd 413 = 44 from rfl) rfl, hf_M3.g (show kd 421 = 22 from rfl) rfl]; exact cv.2.2.2.1), ((hf_M3.g (show kd 421 = 22 from rfl) rfl).trans cv.2.2.2.2.1), ((hf_M3.g (show kd 0 = 35 from rfl) rfl).trans cv.2.2.2.2.2)⟩
  have rv1 : RV M3 L2 S := RV.tr rv (fun a i ha => hf_M3.g (kd_hi ha) rfl)
  have rd1 : RDA M M3 := rd.rr rv.2.2.2.1 rv.1 (fun a i ha => hf_M3.g (kd_hi ha) rfl)
  rw [rf_hi (fun a i ha => hf_M3.g (kd_hi ha) rfl)] at w3_0
  refine jr.pop rfl rfl ?_
  refine jr.aload_n rfl rfl ?_
  refine jr.aload_n rfl rfl ?_
  refine jr.iload_n rfl rfl ?_
  refine jr.iconst rfl ?_
  refine jr.iadd rfl ?_
  refine jr.ials (i := (i + 1)) v1 rfl (by decide) hA0 (by omega) (by omega) (by omega) (by rw [← e1]; exact (Int32.ofInt_toInt _).symm) ?_
  refine jr.aload_n rfl rfl ?_
  refine jr.iload_n rfl rfl ?_
  refine jr.iconst rfl ?_
  refine jr.iadd rfl ?_
  refine jr.ials (i := (i + 2)) v2 rfl (by decide) hA0 (by omega) (by omega) (by omega) (by rw [← e2]; exact (Int32.ofInt_toInt _).symm) ?_
  refine jr_v rfl rfl (Or.inl rfl) rfl rfl (nlt rfl) rfl ⟨rfl, Nat.le_of_ble_eq_true rfl, Nat.le_of_ble_eq_true rfl⟩ rfl (jc.deep (r_place_x rv1.1 rv1.2.1 rv1.2.2.1 (by omega) (by omega) (fun r4 M4 hI hH hF z4 w4 hf hk => ?_)) (Nat.le_of_ble_eq_true rfl))
  have cv2 : CV M4 L S := cv1.z (fun a i ha => hf a i (by omega) (by omega) (by omega) (by omega))
  have rv2 : RV M4 L2 S := ⟨hI, hH, hF, (RG1.fr rv1.2.2.2.1 (fun a i ha => hf a i (rG_ne ha rfl) (rG_ne ha rfl) (rG_ne ha rfl) (rG_ne ha rfl))), by rw [show M4 650 = M3 650 from funext (fun i => hf 650 i (nne rfl) (nne rfl) (nne rfl) (nne rfl))]; exact rv1.2.2.2.2.1, (MC.fr rv1.2.2.2.2.2.1 (fun i => hf 652 i (nne rfl) (nne rfl) (nne rfl) (nne rfl)) (fun i => hf 653 i (nne rfl) (nne rfl) (nne rfl) (nne rfl)) (fun i => hf 654 i (nne rfl) (nne rfl) (nne rfl) (nne rfl)) (fun i => hf 655 i (nne rfl) (nne rfl) (nne rfl) (nne rfl)) (hk 82 (zne rfl) (zne rfl) (zne rfl) (zne rfl))), (AS.fr rv1.2.2.2.2.2.2.1 (fun i => hf 685 i (nne rfl) (nne rfl) (nne rfl) (nne rfl)) (hk 112 (zne rfl) (zne rfl) (zne rfl) (zne rfl))), ((hk 2 (zne rfl) (zne rfl) (zne rfl) (zne rfl)).trans rv1.2.2.2.2.2.2.2.1), X7.fr rv1.2.2.2.2.2.2.2.2 (fun i => hf 647 i (nne rfl) (nne rfl) (nne rfl) (nne rfl))⟩
  have ho := op_place (z := 0) rd1 rv1.2.2.2.1 rv1.1 hf_M3 w3_0 w4 hf hk
  have rd2 : RDA M4 M4 := ho.1.c (fun a i ha => hf a i (by omega) (by omega) (by omega) (by omega))
  have heq : r3 = r4 := ho.2
  refine jr.pop rfl rfl ?_
  refine jr.goto rfl rfl ?_
  exact k _ _ (Int.le_refl _) (by omega) (cv2.le (by omega)) (rv2.le (by omega)) rd2
end
section
/-! ===== the calls of the law, 1 ===== -/
theorem lop_10 {A : Nat → Option (Nat × (Nat → Int32))} [HA A] {Q : Option Value → jm → Prop} {N : Nat} {xs : Nat → Int32} (hA0 : A 0 = some (N, xs)) (hN : N ≤ 4000) {M : jm} {L L2 S i : Int} (cv : CV M L S) (rv : RV M L2 S) (rd : RDA M M) (hS : 0 ≤ S ∧ S ≤ 900000) (hL : 0 ≤ L ∧ L ≤ 1900000000) (hL2 : 0 ≤ L2 ∧ L2 ≤ 1900000000) (hi : 0 ≤ i ∧ i + 6 ≤ N) (k : ∀ (M' : jm) (S' : Int), S ≤ S' → S' ≤ S + 1000 → CV M' (L + 1000000) S' → RV M' (L2 + 2689623) S' → RDA M' M' → jr A 364 xm_law 1328 [(3, .int (Int32.ofInt (i))), (2, .ref (598)), (1, .ref (0)), (0, .ref (1000000))] [] M' Q) : jr A 364 xm_law 528 [(3, .int (Int32.ofInt (i))), (2, .ref (598)), (1, .ref (0)), (0, .ref (1000000))] [] M Q := by
  have hC_M := cv.1
  have hne := cv.2.2.2.1
  have hz4 := cv.2.2.2.2.1
  have hS8 := cv.2.2.2.2.2
  refine jr.aload_n rfl rfl ?_
  refine jr.aload_n rfl rfl ?_
  refine jr.iload_n rfl rfl ?_
  refine jr.iconst rfl ?_
  refine jr.iadd rfl ?_
  obtain ⟨v1, e1⟩ : ∃ z_, (xs (i + 1).toNat).toInt = z_ := ⟨_, rfl⟩
  have b1 : -2147483648 ≤ v1 ∧ v1 ≤ 2147483647 := by rw [← e1]; exact jb_any _
  refine jr.ials (i := (i + 1)) v1 rfl (by decide) hA0 (by omega) (by omega) (by omega) (by rw [← e1]; exact (Int32.ofInt_toInt _).symm) ?_
  refine jr.aload_n rfl rfl ?_
  refine jr.iload_n rfl rfl ?_
  refine jr.iconst rfl ?_
  refine jr.iadd rfl ?_
  obtain ⟨v2, e2⟩ : ∃ z_, (xs (i + 2).toNat).toInt = z_ := ⟨_, rfl⟩
  have b2 : -2147483648 ≤ v2 ∧ v2 ≤ 2147483647 := by rw [← e2]; exact jb_any _
  refine jr.ials (i := (i + 2)) v2 rfl (by decide) hA0 (by omega) (by omega) (by omega) (by rw [← e2]; exact (Int32.ofInt_toInt _).symm) ?_
  refine jr.aload_n rfl rfl ?_
  refine jr.iload_n rfl rfl ?_
  refine jr.iconst rfl ?_
  refine jr.iadd rfl ?_
  obtain ⟨v3, e3⟩ : ∃ z_, (xs (i + 3).toNat).toInt = z_ := ⟨_, rfl⟩
  have b3 : -2147483648 ≤ v3 ∧ v3 ≤ 2147483647 := by rw [← e3]; exact jb_any _
  refine jr.ials (i := (i + 3)) v3 rfl (by decide) hA0 (by omega) (by omega) (by omega) (by rw [← e3]; exact (Int32.ofInt_toInt _).symm) ?_
  refine jr_v rfl rfl (Or.inl rfl) rfl rfl (nlt rfl) rfl ⟨rfl, Nat.le_of_ble_eq_true rfl, Nat.le_of_ble_eq_true rfl⟩ rfl (jc.deep (c_PacketWall_carried_x cv.1 (FR.rfl _ M) (by omega) (by omega) (by omega) rfl (fun hx => rd.2.1.b rv.1 _ hx.1 (by omega)) (fun r4 M4 hC_M4 hf_M4 z4 w4_0 => ?_)) (Nat.le_of_ble_eq_true rfl))
  have cv1 : CV M4 L S := ⟨hC_M4, (cv.2.1.fr hf_M4 rfl), (cv.2.2.1.fr cv.1 hf_M4 rfl), (by rw [hf_M4.g (show kd 413 = 44 from rfl) rfl, hf_M4.g (show kd 421 = 22 from rfl) rfl]; exact cv.2.2.2.1), ((hf_M4.g (show kd 421 = 22 from rfl) rfl).trans cv.2.2.2.2.1), ((hf_M4.g (show kd 0 = 35 from rfl) rfl).trans cv.2.2.2.2.2)⟩
  have rv1 : RV M4 L2 S := RV.tr rv (fun a i ha => hf_M4.g (kd_hi ha) rfl)
  have rd1 : RDA M M4 := rd.rr rv.2.2.2.1 rv.1 (fun a i ha => hf_M4.g (kd_hi ha) rfl)
  rw [rf_hi (fun a i ha => hf_M4.g (kd_hi ha) rfl)] at w4_0
  refine jr.pop rfl rfl ?_
  refine jr.aload_n rfl rfl ?_
  refine jr.aload_n rfl rfl ?_
  refine jr.iload_n rfl rfl ?_
  refine jr.iconst rfl ?_
  refine jr.iadd rfl ?_
  refine jr.ials (i := (i + 1)) v1 rfl (by decide) hA0 (by omega) (by omega) (by omega) (by rw [← e1]; exact (Int32.ofInt_toInt _).symm) ?_
  refine jr.aload_n rfl rfl ?_
  refine jr.iload_n rfl rfl ?_
  refine jr.iconst rfl ?_
  refine jr.iadd rfl ?_
  refine jr.ials (i := (i + 2)) v2 rfl (by decide) hA0 (by omega) (by omega) (by omega) (by rw [← e2]; exact (Int32.ofInt_toInt _).symm) ?_
  refine jr.aload_n rfl rfl ?_
  refine jr.iload_n rfl rfl ?_
  refine jr.iconst rfl ?_
  refine jr.iadd rfl ?_
  refine jr.ials (i := (i + 3)) v3 rfl (by decide) hA0 (by omega) (by omega) (by omega) (by rw [← e3]; exact (Int32.ofInt_toInt _).symm) ?_
  refine jr_v rfl rfl (Or.inl rfl) rfl rfl (nlt rfl) rfl ⟨rfl, Nat.le_of_ble_eq_true rfl, Nat.le_of_ble_eq_true rfl⟩ rfl (jc.deep (r_carried_x rv1.1 rv1.2.1 rv1.2.2.1 (by omega) (by omega) (by omega) (fun r5 M5 hI hH hF z5 w5 hf hk => ?_)) (Nat.le_of_ble_eq_true rfl))
  have cv2 : CV M5 L S := cv1.z (fun a i ha => hf a i (by omega) (by omega) (by omega) (by omega))
  have rv2 : RV M5 L2 S := ⟨hI, hH, hF, (RG1.fr rv1.2.2.2.1 (fun a i ha => hf a i (rG_ne ha rfl) (rG_ne ha rfl) (rG_ne ha rfl) (rG_ne ha rfl))), by rw [show M5 650 = M4 650 from funext (fun i => hf 650 i (nne rfl) (nne rfl) (nne rfl) (nne rfl))]; exact rv1.2.2.2.2.1, (MC.fr rv1.2.2.2.2.2.1 (fun i => hf 652 i (nne rfl) (nne rfl) (nne rfl) (nne rfl)) (fun i => hf 653 i (nne rfl) (nne rfl) (nne rfl) (nne rfl)) (fun i => hf 654 i (nne rfl) (nne rfl) (nne rfl) (nne rfl)) (fun i => hf 655 i (nne rfl) (nne rfl) (nne rfl) (nne rfl)) (hk 82 (zne rfl) (zne rfl) (zne rfl) (zne rfl))), (AS.fr rv1.2.2.2.2.2.2.1 (fun i => hf 685 i (nne rfl) (nne rfl) (nne rfl) (nne rfl)) (hk 112 (zne rfl) (zne rfl) (zne rfl) (zne rfl))), ((hk 2 (zne rfl) (zne rfl) (zne rfl) (zne rfl)).trans rv1.2.2.2.2.2.2.2.1), X7.fr rv1.2.2.2.2.2.2.2.2 (fun i => hf 647 i (nne rfl) (nne rfl) (nne rfl) (nne rfl))⟩
  have ho := op_carried rd1 rv1.2.2.2.1 rv1.1 hf_M4 w4_0 w5 hf hk
  have rd2 : RDA M5 M5 := ho.1.c (fun a i ha => hf a i (by omega) (by omega) (by omega) (by omega))
  have heq : r4 = r5 := ho.2
  refine jr.pop rfl rfl ?_
  refine jr.goto rfl rfl ?_
  exact k _ _ (Int.le_refl _) (by omega) (cv2.le (by omega)) (rv2.le (by omega)) rd2
theorem lop_11 {A : Nat → Option (Nat × (Nat → Int32))} [HA A] {Q : Option Value → jm → Prop} {N : Nat} {xs : Nat → Int32} (hA0 : A 0 = some (N, xs)) (hN : N ≤ 4000) {M : jm} {L L2 S i : Int} (cv : CV M L S) (rv : RV M L2 S) (rd : RDA M M) (hS : 0 ≤ S ∧ S ≤ 900000) (hL : 0 ≤ L ∧ L ≤ 1900000000) (hL2 : 0 ≤ L2 ∧ L2 ≤ 1900000000) (hi : 0 ≤ i ∧ i + 6 ≤ N) (k : ∀ (M' : jm) (S' : Int), S ≤ S' → S' ≤ S + 1000 → CV M' (L + 1000000) S' → RV M' (L2 + 2689623) S' → RDA M' M' → jr A 364 xm_law 1328 [(3, .int (Int32.ofInt (i))), (2, .ref (598)), (1, .ref (0)), (0, .ref (1000000))] [] M' Q) : jr A 364 xm_law 571 [(3, .int (Int32.ofInt (i))), (2, .ref (598)), (1, .ref (0)), (0, .ref (1000000))] [] M Q := by
  have hC_M := cv.1
  have hne := cv.2.2.2.1
  have hz4 := cv.2.2.2.2.1
  have hS8 := cv.2.2.2.2.2
  refine jr.aload_n rfl rfl ?_
  refine jr.aload_n rfl rfl ?_
  refine jr.iload_n rfl rfl ?_
  refine jr.iconst rfl ?_
  refine jr.iadd rfl ?_
  obtain ⟨v1, e1⟩ : ∃ z_, (xs (i + 1).toNat).toInt = z_ := ⟨_, rfl⟩
  have b1 : -2147483648 ≤ v1 ∧ v1 ≤ 2147483647 := by rw [← e1]; exact jb_any _
  refine jr.ials (i := (i + 1)) v1 rfl (by decide) hA0 (by omega) (by omega) (by omega) (by rw [← e1]; exact (Int32.ofInt_toInt _).symm) ?_
  refine jr.aload_n rfl rfl ?_
  refine jr.iload_n rfl rfl ?_
  refine jr.iconst rfl ?_
  refine jr.iadd rfl ?_
  obtain ⟨v2, e2⟩ : ∃ z_, (xs (i + 2).toNat).toInt = z_ := ⟨_, rfl⟩
  have b2 : -2147483648 ≤ v2 ∧ v2 ≤ 2147483647 := by rw [← e2]; exact jb_any _
  refine jr.ials (i := (i + 2)) v2 rfl (by decide) hA0 (by omega) (by omega) (by omega) (by rw [← e2]; exact (Int32.ofInt_toInt _).symm) ?_
  refine jr_v rfl rfl (Or.inl rfl) rfl rfl (nlt rfl) rfl ⟨rfl, Nat.le_of_ble_eq_true rfl, Nat.le_of_ble_eq_true rfl⟩ rfl (jc.deep (c_PacketWall_sum_x cv.1 (FR.rfl _ M) (by omega) (by omega) rfl (fun hx => rd.2.1.b rv.1 _ hx.1 (by omega)) (fun r3 M3 hC_M3 hf_M3 z3 w3_0 => ?_)) (Nat.le_of_ble_eq_true rfl))
  have cv1 : CV M3 L S := ⟨hC_M3, (cv.2.1.fr hf_M3 rfl), (cv.2.2.1.fr cv.1 hf_M3 rfl), (by rw [hf_M3.g (show kd 413 = 44 from rfl) rfl, hf_M3.g (show kd 421 = 22 from rfl) rfl]; exact cv.2.2.2.1), ((hf_M3.g (show kd 421 = 22 from rfl) rfl).trans cv.2.2.2.2.1), ((hf_M3.g (show kd 0 = 35 from rfl) rfl).trans cv.2.2.2.2.2)⟩
  have rv1 : RV M3 L2 S := RV.tr rv (fun a i ha => hf_M3.g (kd_hi ha) rfl)
  have rd1 : RDA M M3 := rd.rr rv.2.2.2.1 rv.1 (fun a i ha => hf_M3.g (kd_hi ha) rfl)
  rw [rf_hi (fun a i ha => hf_M3.g (kd_hi ha) rfl)] at w3_0
  refine jr.pop rfl rfl ?_
  refine jr.aload_n rfl rfl ?_
  refine jr.aload_n rfl rfl ?_
  refine jr.iload_n rfl rfl ?_
  refine jr.iconst rfl ?_
  refine jr.iadd rfl ?_
  refine jr.ials (i := (i + 1)) v1 rfl (by decide) hA0 (by omega) (by omega) (by omega) (by rw [← e1]; exact (Int32.ofInt_toInt _).symm) ?_
  refine jr.aload_n rfl rfl ?_
  refine jr.iload_n rfl rfl ?_
  refine jr.iconst rfl ?_
  refine jr.iadd rfl ?_
  refine jr.ials (i := (i + 2)) v2 rfl (by decide) hA0 (by omega) (by omega) (by omega) (by rw [← e2]; exact (Int32.ofInt_toInt _).symm) ?_
  refine jr_v rfl rfl (Or.inl rfl) rfl rfl (nlt rfl) rfl ⟨rfl, Nat.le_of_ble_eq_true rfl, Nat.le_of_ble_eq_true rfl⟩ rfl (jc.deep (r_sum_x rv1.1 rv1.2.1 rv1.2.2.1 (by omega) (by omega) (fun r4 M4 hI hH hF z4 w4 hf hk => ?_)) (Nat.le_of_ble_eq_true rfl))
  have cv2 : CV M4 L S := cv1.z (fun a i ha => hf a i (by omega) (by omega) (by omega) (by omega))
  have rv2 : RV M4 L2 S := ⟨hI, hH, hF, (RG1.fr rv1.2.2.2.1 (fun a i ha => hf a i (rG_ne ha rfl) (rG_ne ha rfl) (rG_ne ha rfl) (rG_ne ha rfl))), by rw [show M4 650 = M3 650 from funext (fun i => hf 650 i (nne rfl) (nne rfl) (nne rfl) (nne rfl))]; exact rv1.2.2.2.2.1, (MC.fr rv1.2.2.2.2.2.1 (fun i => hf 652 i (nne rfl) (nne rfl) (nne rfl) (nne rfl)) (fun i => hf 653 i (nne rfl) (nne rfl) (nne rfl) (nne rfl)) (fun i => hf 654 i (nne rfl) (nne rfl) (nne rfl) (nne rfl)) (fun i => hf 655 i (nne rfl) (nne rfl) (nne rfl) (nne rfl)) (hk 82 (zne rfl) (zne rfl) (zne rfl) (zne rfl))), (AS.fr rv1.2.2.2.2.2.2.1 (fun i => hf 685 i (nne rfl) (nne rfl) (nne rfl) (nne rfl)) (hk 112 (zne rfl) (zne rfl) (zne rfl) (zne rfl))), ((hk 2 (zne rfl) (zne rfl) (zne rfl) (zne rfl)).trans rv1.2.2.2.2.2.2.2.1), X7.fr rv1.2.2.2.2.2.2.2.2 (fun i => hf 647 i (nne rfl) (nne rfl) (nne rfl) (nne rfl))⟩
  have ho := op_sum (z := 0) rd1 rv1.2.2.2.1 rv1.1 hf_M3 w3_0 w4 hf hk
  have rd2 : RDA M4 M4 := ho.1.c (fun a i ha => hf a i (by omega) (by omega) (by omega) (by omega))
  have heq : r3 = r4 := ho.2
  refine jr.pop rfl rfl ?_
  refine jr.goto rfl rfl ?_
  exact k _ _ (Int.le_refl _) (by omega) (cv2.le (by omega)) (rv2.le (by omega)) rd2
theorem lop_12 {A : Nat → Option (Nat × (Nat → Int32))} [HA A] {Q : Option Value → jm → Prop} {N : Nat} {xs : Nat → Int32} (hA0 : A 0 = some (N, xs)) (hN : N ≤ 4000) {M : jm} {L L2 S i : Int} (cv : CV M L S) (rv : RV M L2 S) (rd : RDA M M) (hS : 0 ≤ S ∧ S ≤ 900000) (hL : 0 ≤ L ∧ L ≤ 1900000000) (hL2 : 0 ≤ L2 ∧ L2 ≤ 1900000000) (hi : 0 ≤ i ∧ i + 6 ≤ N) (k : ∀ (M' : jm) (S' : Int), S ≤ S' → S' ≤ S + 1000 → CV M' (L + 1000000) S' → RV M' (L2 + 2689623) S' → RDA M' M' → jr A 364 xm_law 1328 [(3, .int (Int32.ofInt (i))), (2, .ref (598)), (1, .ref (0)), (0, .ref (1000000))] [] M' Q) : jr A 364 xm_law 604 [(3, .int (Int32.ofInt (i))), (2, .ref (598)), (1, .ref (0)), (0, .ref (1000000))] [] M Q := by
  have hC_M := cv.1
  have hne := cv.2.2.2.1
  have hz4 := cv.2.2.2.2.1
  have hS8 := cv.2.2.2.2.2
  refine jr.aload_n rfl rfl ?_
  refine jr.aload_n rfl rfl ?_
  refine jr.iload_n rfl rfl ?_
  refine jr.iconst rfl ?_
  refine jr.iadd rfl ?_
  obtain ⟨v1, e1⟩ : ∃ z_, (xs (i + 1).toNat).toInt = z_ := ⟨_, rfl⟩
  have b1 : -2147483648 ≤ v1 ∧ v1 ≤ 2147483647 := by rw [← e1]; exact jb_any _
  refine jr.ials (i := (i + 1)) v1 rfl (by decide) hA0 (by omega) (by omega) (by omega) (by rw [← e1]; exact (Int32.ofInt_toInt _).symm) ?_
  refine jr_v rfl rfl (Or.inl rfl) rfl rfl (nlt rfl) rfl ⟨rfl, Nat.le_of_ble_eq_true rfl, Nat.le_of_ble_eq_true rfl⟩ rfl (jc.deep (c_PacketWall_repair_x cv.1 (FR.rfl _ M) (by omega) rfl (fun hx => rd.2.1.b rv.1 _ hx.1 (by omega)) (fun r2 M2 hC_M2 hf_M2 z2 w2_0 => ?_)) (Nat.le_of_ble_eq_true rfl))
  have cv1 : CV M2 L S := ⟨hC_M2, (cv.2.1.fr hf_M2 rfl), (cv.2.2.1.fr cv.1 hf_M2 rfl), (by rw [hf_M2.g (show kd 413 = 44 from rfl) rfl, hf_M2.g (show kd 421 = 22 from rfl) rfl]; exact cv.2.2.2.1), ((hf_M2.g (show kd 421 = 22 from rfl) rfl).trans cv.2.2.2.2.1), ((hf_M2.g (show kd 0 = 35 from rfl) rfl).trans cv.2.2.2.2.2)⟩
  have rv1 : RV M2 L2 S := RV.tr rv (fun a i ha => hf_M2.g (kd_hi ha) rfl)
  have rd1 : RDA M M2 := rd.rr rv.2.2.2.1 rv.1 (fun a i ha => hf_M2.g (kd_hi ha) rfl)
  rw [rf_hi (fun a i ha => hf_M2.g (kd_hi ha) rfl)] at w2_0
  refine jr.pop rfl rfl ?_
  refine jr.aload_n rfl rfl ?_
  refine jr.aload_n rfl rfl ?_
  refine jr.iload_n rfl rfl ?_
  refine jr.iconst rfl ?_
  refine jr.iadd rfl ?_
  refine jr.ials (i := (i + 1)) v1 rfl (by decide) hA0 (by omega) (by omega) (by omega) (by rw [← e1]; exact (Int32.ofInt_toInt _).symm) ?_
  refine jr_v rfl rfl (Or.inl rfl) rfl rfl (nlt rfl) rfl ⟨rfl, Nat.le_of_ble_eq_true rfl, Nat.le_of_ble_eq_true rfl⟩ rfl (jc.deep (r_repair_x rv1.1 rv1.2.1 rv1.2.2.1 (by omega) (fun r3 M3 hI hH hF z3 w3 hf hk => ?_)) (Nat.le_of_ble_eq_true rfl))
  have cv2 : CV M3 L S := cv1.z (fun a i ha => hf a i (by omega) (by omega) (by omega) (by omega) (by omega))
  have rv2 : RV M3 L2 S := ⟨hI, hH, hF, (RG1.fr rv1.2.2.2.1 (fun a i ha => hf a i (rG_ne ha rfl) (rG_ne ha rfl) (rG_ne ha rfl) (rG_ne ha rfl) (rG_ne ha rfl))), by rw [show M3 650 = M2 650 from funext (fun i => hf 650 i (nne rfl) (nne rfl) (nne rfl) (nne rfl) (nne rfl))]; exact rv1.2.2.2.2.1, (MC.fr rv1.2.2.2.2.2.1 (fun i => hf 652 i (nne rfl) (nne rfl) (nne rfl) (nne rfl) (nne rfl)) (fun i => hf 653 i (nne rfl) (nne rfl) (nne rfl) (nne rfl) (nne rfl)) (fun i => hf 654 i (nne rfl) (nne rfl) (nne rfl) (nne rfl) (nne rfl)) (fun i => hf 655 i (nne rfl) (nne rfl) (nne rfl) (nne rfl) (nne rfl)) (hk 82 (zne rfl) (zne rfl) (zne rfl) (zne rfl))), (AS.fr rv1.2.2.2.2.2.2.1 (fun i => hf 685 i (nne rfl) (nne rfl) (nne rfl) (nne rfl) (nne rfl)) (hk 112 (zne rfl) (zne rfl) (zne rfl) (zne rfl))), ((hk 2 (zne rfl) (zne rfl) (zne rfl) (zne rfl)).trans rv1.2.2.2.2.2.2.2.1), X7.fr rv1.2.2.2.2.2.2.2.2 (fun i => hf 647 i (nne rfl) (nne rfl) (nne rfl) (nne rfl) (nne rfl))⟩
  have ho := op_repair rd1 rv1.2.2.2.1 rv1.1 hf_M2 w2_0 w3 hf hk
  have rd2 : RDA M3 M3 := ho.1.c (fun a i ha => hf a i (by omega) (by omega) (by omega) (by omega) (by omega))
  have heq : r2 = r3 := ho.2
  refine jr.pop rfl rfl ?_
  refine jr.goto rfl rfl ?_
  exact k _ _ (Int.le_refl _) (by omega) (cv2.le (by omega)) (rv2.le (by omega)) rd2
theorem lop_13 {A : Nat → Option (Nat × (Nat → Int32))} [HA A] {Q : Option Value → jm → Prop} {N : Nat} {xs : Nat → Int32} (hA0 : A 0 = some (N, xs)) (hN : N ≤ 4000) {M : jm} {L L2 S i : Int} (cv : CV M L S) (rv : RV M L2 S) (rd : RDA M M) (hS : 0 ≤ S ∧ S ≤ 900000) (hL : 0 ≤ L ∧ L ≤ 1900000000) (hL2 : 0 ≤ L2 ∧ L2 ≤ 1900000000) (hi : 0 ≤ i ∧ i + 6 ≤ N) (k : ∀ (M' : jm) (S' : Int), S ≤ S' → S' ≤ S + 1000 → CV M' (L + 1000000) S' → RV M' (L2 + 2689623) S' → RDA M' M' → jr A 364 xm_law 1328 [(3, .int (Int32.ofInt (i))), (2, .ref (598)), (1, .ref (0)), (0, .ref (1000000))] [] M' Q) : jr A 364 xm_law 627 [(3, .int (Int32.ofInt (i))), (2, .ref (598)), (1, .ref (0)), (0, .ref (1000000))] [] M Q := by
  have hC_M := cv.1
  have hne := cv.2.2.2.1
  have hz4 := cv.2.2.2.2.1
  have hS8 := cv.2.2.2.2.2
  refine jr.aload_n rfl rfl ?_
  refine jr.aload_n rfl rfl ?_
  refine jr.iload_n rfl rfl ?_
  refine jr.iconst rfl ?_
  refine jr.iadd rfl ?_
  obtain ⟨v1, e1⟩ : ∃ z_, (xs (i + 1).toNat).toInt = z_ := ⟨_, rfl⟩
  have b1 : -2147483648 ≤ v1 ∧ v1 ≤ 2147483647 := by rw [← e1]; exact jb_any _
  refine jr.ials (i := (i + 1)) v1 rfl (by decide) hA0 (by omega) (by omega) (by omega) (by rw [← e1]; exact (Int32.ofInt_toInt _).symm) ?_
  refine jr.aload_n rfl rfl ?_
  refine jr.iload_n rfl rfl ?_
  refine jr.iconst rfl ?_
  refine jr.iadd rfl ?_
  obtain ⟨v2, e2⟩ : ∃ z_, (xs (i + 2).toNat).toInt = z_ := ⟨_, rfl⟩
  have b2 : -2147483648 ≤ v2 ∧ v2 ≤ 2147483647 := by rw [← e2]; exact jb_any _
  refine jr.ials (i := (i + 2)) v2 rfl (by decide) hA0 (by omega) (by omega) (by omega) (by rw [← e2]; exact (Int32.ofInt_toInt _).symm) ?_
  refine jr.aload_n rfl rfl ?_
  refine jr.iload_n rfl rfl ?_
  refine jr.iconst rfl ?_
  refine jr.iadd rfl ?_
  obtain ⟨v3, e3⟩ : ∃ z_, (xs (i + 3).toNat).toInt = z_ := ⟨_, rfl⟩
  have b3 : -2147483648 ≤ v3 ∧ v3 ≤ 2147483647 := by rw [← e3]; exact jb_any _
  refine jr.ials (i := (i + 3)) v3 rfl (by decide) hA0 (by omega) (by omega) (by omega) (by rw [← e3]; exact (Int32.ofInt_toInt _).symm) ?_
  refine jr_v rfl rfl (Or.inl rfl) rfl rfl (nlt rfl) rfl ⟨rfl, Nat.le_of_ble_eq_true rfl, Nat.le_of_ble_eq_true rfl⟩ rfl (jc.deep (c_PacketWall_set_x cv.1 (FR.rfl _ M) (by omega) (by omega) (by omega) rfl (fun r4 M4 hC_M4 hf_M4 z4 w4_0 => ?_)) (Nat.le_of_ble_eq_true rfl))
  have cv1 : CV M4 L S := ⟨hC_M4, (cv.2.1.fr hf_M4 rfl), (cv.2.2.1.fr cv.1 hf_M4 rfl), (by rw [hf_M4.g (show kd 413 = 44 from rfl) rfl, hf_M4.g (show kd 421 = 22 from rfl) rfl]; exact cv.2.2.2.1), ((hf_M4.g (show kd 421 = 22 from rfl) rfl).trans cv.2.2.2.2.1), ((hf_M4.g (show kd 0 = 35 from rfl) rfl).trans cv.2.2.2.2.2)⟩
  have rv1 : RV M4 L2 S := RV.tr rv (fun a i ha => hf_M4.g (kd_hi ha) rfl)
  have rd1 : RDA M M4 := rd.rr rv.2.2.2.1 rv.1 (fun a i ha => hf_M4.g (kd_hi ha) rfl)
  refine jr.pop rfl rfl ?_
  refine jr.aload_n rfl rfl ?_
  refine jr.aload_n rfl rfl ?_
  refine jr.iload_n rfl rfl ?_
  refine jr.iconst rfl ?_
  refine jr.iadd rfl ?_
  refine jr.ials (i := (i + 1)) v1 rfl (by decide) hA0 (by omega) (by omega) (by omega) (by rw [← e1]; exact (Int32.ofInt_toInt _).symm) ?_
  refine jr.aload_n rfl rfl ?_
  refine jr.iload_n rfl rfl ?_
  refine jr.iconst rfl ?_
  refine jr.iadd rfl ?_
  refine jr.ials (i := (i + 2)) v2 rfl (by decide) hA0 (by omega) (by omega) (by omega) (by rw [← e2]; exact (Int32.ofInt_toInt _).symm) ?_
  refine jr.aload_n rfl rfl ?_
  refine jr.iload_n rfl rfl ?_
  refine jr.iconst rfl ?_
  refine jr.iadd rfl ?_
  refine jr.ials (i := (i + 3)) v3 rfl (by decide) hA0 (by omega) (by omega) (by omega) (by rw [← e3]; exact (Int32.ofInt_toInt _).symm) ?_
  refine jr_v rfl rfl (Or.inl rfl) rfl rfl (nlt rfl) rfl ⟨rfl, Nat.le_of_ble_eq_true rfl, Nat.le_of_ble_eq_true rfl⟩ rfl (jc.deep (r_set_x rv1.1 rv1.2.1 rv1.2.2.1 (by omega) (by omega) (by omega) (fun r5 M5 hI hH hF z5 w5 hf hk => ?_)) (Nat.le_of_ble_eq_true rfl))
  have cv2 : CV M5 L S := cv1.z (fun a i ha => hf a i (by omega))
  have rv2 : RV M5 L2 S := ⟨hI, hH, hF, (RG1.fr rv1.2.2.2.1 (fun a i ha => hf a i (rG_ne ha rfl))), by rw [show M5 650 = M4 650 from funext (fun i => hf 650 i (nne rfl))]; exact rv1.2.2.2.2.1, (MC.fr rv1.2.2.2.2.2.1 (fun i => hf 652 i (nne rfl)) (fun i => hf 653 i (nne rfl)) (fun i => hf 654 i (nne rfl)) (fun i => hf 655 i (nne rfl)) (hf 598 82 (nne rfl))), (AS.fr rv1.2.2.2.2.2.2.1 (fun i => hf 685 i (nne rfl)) (hf 598 112 (nne rfl))), ((hf 598 2 (nne rfl)).trans rv1.2.2.2.2.2.2.2.1), X7.fr rv1.2.2.2.2.2.2.2.2 (fun i => hf 647 i (nne rfl))⟩
  have ho := op_set rd1 rv1.2.2.2.1 rv1.1 hf_M4 w4_0 w5 hf hk
  have rd2 : RDA M5 M5 := ho.1.c (fun a i ha => hf a i (by omega))
  have heq : r4 = r5 := ho.2
  refine jr.pop rfl rfl ?_
  refine jr.goto rfl rfl ?_
  exact k _ _ (Int.le_refl _) (by omega) (cv2.le (by omega)) (rv2.le (by omega)) rd2
theorem lop_14 {A : Nat → Option (Nat × (Nat → Int32))} [HA A] {Q : Option Value → jm → Prop} {N : Nat} {xs : Nat → Int32} (hA0 : A 0 = some (N, xs)) (hN : N ≤ 4000) {M : jm} {L L2 S i : Int} (cv : CV M L S) (rv : RV M L2 S) (rd : RDA M M) (hS : 0 ≤ S ∧ S ≤ 900000) (hL : 0 ≤ L ∧ L ≤ 1900000000) (hL2 : 0 ≤ L2 ∧ L2 ≤ 1900000000) (hi : 0 ≤ i ∧ i + 6 ≤ N) (k : ∀ (M' : jm) (S' : Int), S ≤ S' → S' ≤ S + 1000 → CV M' (L + 1000000) S' → RV M' (L2 + 2689623) S' → RDA M' M' → jr A 364 xm_law 1328 [(3, .int (Int32.ofInt (i))), (2, .ref (598)), (1, .ref (0)), (0, .ref (1000000))] [] M' Q) : jr A 364 xm_law 670 [(3, .int (Int32.ofInt (i))), (2, .ref (598)), (1, .ref (0)), (0, .ref (1000000))] [] M Q := by
  have hC_M := cv.1
  have hne := cv.2.2.2.1
  have hz4 := cv.2.2.2.2.1
  have hS8 := cv.2.2.2.2.2
  refine jr.aload_n rfl rfl ?_
  refine jr.aload_n rfl rfl ?_
  refine jr.iload_n rfl rfl ?_
  refine jr.iconst rfl ?_
  refine jr.iadd rfl ?_
  obtain ⟨v1, e1⟩ : ∃ z_, (xs (i + 1).toNat).toInt = z_ := ⟨_, rfl⟩
  have b1 : -2147483648 ≤ v1 ∧ v1 ≤ 2147483647 := by rw [← e1]; exact jb_any _
  refine jr.ials (i := (i + 1)) v1 rfl (by decide) hA0 (by omega) (by omega) (by omega) (by rw [← e1]; exact (Int32.ofInt_toInt _).symm) ?_
  refine jr_v rfl rfl (Or.inl rfl) rfl rfl (nlt rfl) rfl ⟨rfl, Nat.le_of_ble_eq_true rfl, Nat.le_of_ble_eq_true rfl⟩ rfl (jc.deep (c_PacketWall_digest_x cv.1 (by omega) (fun r2 z2 w2_0 => ?_)) (Nat.le_of_ble_eq_true rfl))
  refine jr.pop2 rfl ?_
  refine jr.aload_n rfl rfl ?_
  refine jr.aload_n rfl rfl ?_
  refine jr.iload_n rfl rfl ?_
  refine jr.iconst rfl ?_
  refine jr.iadd rfl ?_
  refine jr.ials (i := (i + 1)) v1 rfl (by decide) hA0 (by omega) (by omega) (by omega) (by rw [← e1]; exact (Int32.ofInt_toInt _).symm) ?_
  refine jr_v rfl rfl (Or.inl rfl) rfl rfl (nlt rfl) rfl ⟨rfl, Nat.le_of_ble_eq_true rfl, Nat.le_of_ble_eq_true rfl⟩ rfl (jc.deep (r_digest_x rv.1 rv.2.1 rv.2.2.1 (by omega) (fun r3 M3 hI hH hF z3 w3 hf => ?_)) (Nat.le_of_ble_eq_true rfl))
  have cv2 : CV M3 L S := cv.z (fun a i ha => hf a i (by omega))
  have rv2 : RV M3 L2 S := ⟨hI, hH, hF, (RG1.fr rv.2.2.2.1 (fun a i ha => hf a i (rG_ne ha rfl))), by rw [show M3 650 = M 650 from funext (fun i => hf 650 i (nne rfl))]; exact rv.2.2.2.2.1, (MC.fr rv.2.2.2.2.2.1 (fun i => hf 652 i (nne rfl)) (fun i => hf 653 i (nne rfl)) (fun i => hf 654 i (nne rfl)) (fun i => hf 655 i (nne rfl)) (hf 598 82 (nne rfl))), (AS.fr rv.2.2.2.2.2.2.1 (fun i => hf 685 i (nne rfl)) (hf 598 112 (nne rfl))), ((hf 598 2 (nne rfl)).trans rv.2.2.2.2.2.2.2.1), X7.fr rv.2.2.2.2.2.2.2.2 (fun i => hf 647 i (nne rfl))⟩
  have heq : r2 = r3 := op_digest rd rv.1 w2_0 w3 hf
  have rd2 : RDA M3 M3 := (oq_digest rd rv.2.2.2.1 rv.1 hf ).c (fun a i ha => hf a i (by omega))
  refine jr.pop2 rfl ?_
  refine jr.goto rfl rfl ?_
  exact k _ _ (Int.le_refl _) (by omega) (cv2.le (by omega)) (rv2.le (by omega)) rd2
theorem lop_15 {A : Nat → Option (Nat × (Nat → Int32))} [HA A] {Q : Option Value → jm → Prop} {N : Nat} {xs : Nat → Int32} (hA0 : A 0 = some (N, xs)) (hN : N ≤ 4000) {M : jm} {L L2 S i : Int} (cv : CV M L S) (rv : RV M L2 S) (rd : RDA M M) (hS : 0 ≤ S ∧ S ≤ 900000) (hL : 0 ≤ L ∧ L ≤ 1900000000) (hL2 : 0 ≤ L2 ∧ L2 ≤ 1900000000) (hi : 0 ≤ i ∧ i + 6 ≤ N) (k : ∀ (M' : jm) (S' : Int), S ≤ S' → S' ≤ S + 1000 → CV M' (L + 1000000) S' → RV M' (L2 + 2689623) S' → RDA M' M' → jr A 364 xm_law 1328 [(3, .int (Int32.ofInt (i))), (2, .ref (598)), (1, .ref (0)), (0, .ref (1000000))] [] M' Q) : jr A 364 xm_law 693 [(3, .int (Int32.ofInt (i))), (2, .ref (598)), (1, .ref (0)), (0, .ref (1000000))] [] M Q := by
  have hC_M := cv.1
  have hne := cv.2.2.2.1
  have hz4 := cv.2.2.2.2.1
  have hS8 := cv.2.2.2.2.2
  refine jr.aload_n rfl rfl ?_
  refine jr.aload_n rfl rfl ?_
  refine jr.iload_n rfl rfl ?_
  refine jr.iconst rfl ?_
  refine jr.iadd rfl ?_
  obtain ⟨v1, e1⟩ : ∃ z_, (xs (i + 1).toNat).toInt = z_ := ⟨_, rfl⟩
  have b1 : -2147483648 ≤ v1 ∧ v1 ≤ 2147483647 := by rw [← e1]; exact jb_any _
  refine jr.ials (i := (i + 1)) v1 rfl (by decide) hA0 (by omega) (by omega) (by omega) (by rw [← e1]; exact (Int32.ofInt_toInt _).symm) ?_
  refine jr_v rfl rfl (Or.inl rfl) rfl rfl (nlt rfl) rfl ⟨rfl, Nat.le_of_ble_eq_true rfl, Nat.le_of_ble_eq_true rfl⟩ rfl (jc.deep (c_PacketWall_gather_x cv.1 (FR.rfl _ M) (by omega) rfl rfl (rd.2.1.b rv.1) (rd.gok rv.2.2.2.1 rv.1) (by omega) (fun r2 M2 hC_M2 hf_M2 z2 w2_0 => ?_)) (Nat.le_of_ble_eq_true rfl))
  have cv1 : CV M2 L S := ⟨hC_M2, (cv.2.1.fr hf_M2 rfl), (cv.2.2.1.fr cv.1 hf_M2 rfl), (by rw [hf_M2.g (show kd 413 = 44 from rfl) rfl, hf_M2.g (show kd 421 = 22 from rfl) rfl]; exact cv.2.2.2.1), ((hf_M2.g (show kd 421 = 22 from rfl) rfl).trans cv.2.2.2.2.1), ((hf_M2.g (show kd 0 = 35 from rfl) rfl).trans cv.2.2.2.2.2)⟩
  have rv1 : RV M2 L2 S := RV.tr rv (fun a i ha => hf_M2.g (kd_hi ha) rfl)
  have rd1 : RDA M M2 := rd.rr rv.2.2.2.1 rv.1 (fun a i ha => hf_M2.g (kd_hi ha) rfl)
  rw [rf_hi (fun a i ha => hf_M2.g (kd_hi ha) rfl)] at w2_0
  refine jr.pop rfl rfl ?_
  refine jr.aload_n rfl rfl ?_
  refine jr.aload_n rfl rfl ?_
  refine jr.iload_n rfl rfl ?_
  refine jr.iconst rfl ?_
  refine jr.iadd rfl ?_
  refine jr.ials (i := (i + 1)) v1 rfl (by decide) hA0 (by omega) (by omega) (by omega) (by rw [← e1]; exact (Int32.ofInt_toInt _).symm) ?_
  refine jr_v rfl rfl (Or.inl rfl) rfl rfl (nlt rfl) rfl ⟨rfl, Nat.le_of_ble_eq_true rfl, Nat.le_of_ble_eq_true rfl⟩ rfl (jc.deep (r_gather_x rv1.1 rv1.2.1 rv1.2.2.1 (by omega) rv1.2.2.2.1 rd1.gq6 (fun r3 M3 hI hH hF z3 hg w3 hf hk => ?_)) (Nat.le_of_ble_eq_true rfl))
  have cv2 : CV M3 L S := cv1.z (fun a i ha => hf a i (by omega) (by omega) (by omega) (by omega) (by omega) (by omega) (by omega) (by omega) (by omega) (by omega) (by omega) (by omega) (by omega) (by omega) (by omega) (by omega) (by omega) (by omega) (by omega) (by omega) (by omega) (by omega) (by omega) (by omega))
  have rv2 : RV M3 L2 S := ⟨hI, hH, hF, hg, by rw [show M3 650 = M2 650 from funext (fun i => hf 650 i (nne rfl) (nne rfl) (nne rfl) (nne rfl) (nne rfl) (nne rfl) (nne rfl) (nne rfl) (nne rfl) (nne rfl) (nne rfl) (nne rfl) (nne rfl) (nne rfl) (nne rfl) (nne rfl) (nne rfl) (nne rfl) (nne rfl) (nne rfl) (nne rfl) (nne rfl) (nne rfl) (nne rfl))]; exact rv1.2.2.2.2.1, (MC.fr rv1.2.2.2.2.2.1 (fun i => hf 652 i (nne rfl) (nne rfl) (nne rfl) (nne rfl) (nne rfl) (nne rfl) (nne rfl) (nne rfl) (nne rfl) (nne rfl) (nne rfl) (nne rfl) (nne rfl) (nne rfl) (nne rfl) (nne rfl) (nne rfl) (nne rfl) (nne rfl) (nne rfl) (nne rfl) (nne rfl) (nne rfl) (nne rfl)) (fun i => hf 653 i (nne rfl) (nne rfl) (nne rfl) (nne rfl) (nne rfl) (nne rfl) (nne rfl) (nne rfl) (nne rfl) (nne rfl) (nne rfl) (nne rfl) (nne rfl) (nne rfl) (nne rfl) (nne rfl) (nne rfl) (nne rfl) (nne rfl) (nne rfl) (nne rfl) (nne rfl) (nne rfl) (nne rfl)) (fun i => hf 654 i (nne rfl) (nne rfl) (nne rfl) (nne rfl) (nne rfl) (nne rfl) (nne rfl) (nne rfl) (nne rfl) (nne rfl) (nne rfl) (nne rfl) (nne rfl) (nne rfl) (nne rfl) (nne rfl) (nne rfl) (nne rfl) (nne rfl) (nne rfl) (nne rfl) (nne rfl) (nne rfl) (nne rfl)) (fun i => hf 655 i (nne rfl) (nne rfl) (nne rfl) (nne rfl) (nne rfl) (nne rfl) (nne rfl) (nne rfl) (nne rfl) (nne rfl) (nne rfl) (nne rfl) (nne rfl) (nne rfl) (nne rfl) (nne rfl) (nne rfl) (nne rfl) (nne rfl) (nne rfl) (nne rfl) (nne rfl) (nne rfl) (nne rfl)) (hk 82 (zne rfl) (zne rfl) (zne rfl) (zne rfl) (zne rfl))), (AS.fr rv1.2.2.2.2.2.2.1 (fun i => hf 685 i (nne rfl) (nne rfl) (nne rfl) (nne rfl) (nne rfl) (nne rfl) (nne rfl) (nne rfl) (nne rfl) (nne rfl) (nne rfl) (nne rfl) (nne rfl) (nne rfl) (nne rfl) (nne rfl) (nne rfl) (nne rfl) (nne rfl) (nne rfl) (nne rfl) (nne rfl) (nne rfl) (nne rfl)) (hk 112 (zne rfl) (zne rfl) (zne rfl) (zne rfl) (zne rfl))), ((hk 2 (zne rfl) (zne rfl) (zne rfl) (zne rfl) (zne rfl)).trans rv1.2.2.2.2.2.2.2.1), X7.fr rv1.2.2.2.2.2.2.2.2 (fun i => hf 647 i (nne rfl) (nne rfl) (nne rfl) (nne rfl) (nne rfl) (nne rfl) (nne rfl) (nne rfl) (nne rfl) (nne rfl) (nne rfl) (nne rfl) (nne rfl) (nne rfl) (nne rfl) (nne rfl) (nne rfl) (nne rfl) (nne rfl) (nne rfl) (nne rfl) (nne rfl) (nne rfl) (nne rfl))⟩
  have ho := op_gather rd1 rv1.2.2.2.1 rv1.1 hI (hS8.trans rv1.2.2.2.2.2.2.2.1.symm) hf_M2 w2_0 w3 hf hk
  have rd2 : RDA M3 M3 := ho.1.c (fun a i ha => hf a i (by omega) (by omega) (by omega) (by omega) (by omega) (by omega) (by omega) (by omega) (by omega) (by omega) (by omega) (by omega) (by omega) (by omega) (by omega) (by omega) (by omega) (by omega) (by omega) (by omega) (by omega) (by omega) (by omega) (by omega))
  have heq : r2 = r3 := ho.2
  refine jr.pop rfl rfl ?_
  refine jr.goto rfl rfl ?_
  exact k _ _ (Int.le_refl _) (by omega) (cv2.le (by omega)) (rv2.le (by omega)) rd2
theorem lop_16 {A : Nat → Option (Nat × (Nat → Int32))} [HA A] {Q : Option Value → jm → Prop} {N : Nat} {xs : Nat → Int32} (hA0 : A 0 = some (N, xs)) (hN : N ≤ 4000) {M : jm} {L L2 S i : Int} (cv : CV M L S) (rv : RV M L2 S) (rd : RDA M M) (hS : 0 ≤ S ∧ S ≤ 900000) (hL : 0 ≤ L ∧ L ≤ 1900000000) (hL2 : 0 ≤ L2 ∧ L2 ≤ 1900000000) (hi : 0 ≤ i ∧ i + 6 ≤ N) (k : ∀ (M' : jm) (S' : Int), S ≤ S' → S' ≤ S + 1000 → CV M' (L + 1000000) S' → RV M' (L2 + 2689623) S' → RDA M' M' → jr A 364 xm_law 1328 [(3, .int (Int32.ofInt (i))), (2, .ref (598)), (1, .ref (0)), (0, .ref (1000000))] [] M' Q) : jr A 364 xm_law 716 [(3, .int (Int32.ofInt (i))), (2, .ref (598)), (1, .ref (0)), (0, .ref (1000000))] [] M Q := by
  have hC_M := cv.1
  have hne := cv.2.2.2.1
  have hz4 := cv.2.2.2.2.1
  have hS8 := cv.2.2.2.2.2
  refine jr.aload_n rfl rfl ?_
  refine jr.aload_n rfl rfl ?_
  refine jr.iload_n rfl rfl ?_
  refine jr.iconst rfl ?_
  refine jr.iadd rfl ?_
  obtain ⟨v1, e1⟩ : ∃ z_, (xs (i + 1).toNat).toInt = z_ := ⟨_, rfl⟩
  have b1 : -2147483648 ≤ v1 ∧ v1 ≤ 2147483647 := by rw [← e1]; exact jb_any _
  refine jr.ials (i := (i + 1)) v1 rfl (by decide) hA0 (by omega) (by omega) (by omega) (by rw [← e1]; exact (Int32.ofInt_toInt _).symm) ?_
  refine jr_v rfl rfl (Or.inl rfl) rfl rfl (nlt rfl) rfl ⟨rfl, Nat.le_of_ble_eq_true rfl, Nat.le_of_ble_eq_true rfl⟩ rfl (jc.deep (c_PacketWall_gathered_x cv.1 (by omega) (fun r2 z2 w2_0 => ?_)) (Nat.le_of_ble_eq_true rfl))
  refine jr.pop rfl rfl ?_
  refine jr.aload_n rfl rfl ?_
  refine jr.aload_n rfl rfl ?_
  refine jr.iload_n rfl rfl ?_
  refine jr.iconst rfl ?_
  refine jr.iadd rfl ?_
  refine jr.ials (i := (i + 1)) v1 rfl (by decide) hA0 (by omega) (by omega) (by omega) (by rw [← e1]; exact (Int32.ofInt_toInt _).symm) ?_
  refine jr_v rfl rfl (Or.inl rfl) rfl rfl (nlt rfl) rfl ⟨rfl, Nat.le_of_ble_eq_true rfl, Nat.le_of_ble_eq_true rfl⟩ rfl (jc.deep (r_gathered_x rv.1 rv.2.1 rv.2.2.1 (by omega) (fun r3 M3 hI hH hF z3 w3 hM hf hk => ?_)) (Nat.le_of_ble_eq_true rfl))
  have cv2 : CV M3 L S := by rw [hM]; exact cv
  have rv2 : RV M3 L2 S := by rw [hM]; exact rv
  have heq : r2 = r3 := op_gathered rd w2_0 w3
  have rd2 : RDA M3 M3 := by rw [hM]; exact rd
  refine jr.pop rfl rfl ?_
  refine jr.goto rfl rfl ?_
  exact k _ _ (Int.le_refl _) (by omega) (cv2.le (by omega)) (rv2.le (by omega)) rd2
theorem lop_17 {A : Nat → Option (Nat × (Nat → Int32))} [HA A] {Q : Option Value → jm → Prop} {N : Nat} {xs : Nat → Int32} (hA0 : A 0 = some (N, xs)) (hN : N ≤ 4000) {M : jm} {L L2 S i : Int} (cv : CV M L S) (rv : RV M L2 S) (rd : RDA M M) (hS : 0 ≤ S ∧ S ≤ 900000) (hL : 0 ≤ L ∧ L ≤ 1900000000) (hL2 : 0 ≤ L2 ∧ L2 ≤ 1900000000) (hi : 0 ≤ i ∧ i + 6 ≤ N) (k : ∀ (M' : jm) (S' : Int), S ≤ S' → S' ≤ S + 1000 → CV M' (L + 1000000) S' → RV M' (L2 + 2689623) S' → RDA M' M' → jr A 364 xm_law 1328 [(3, .int (Int32.ofInt (i))), (2, .ref (598)), (1, .ref (0)), (0, .ref (1000000))] [] M' Q) : jr A 364 xm_law 739 [(3, .int (Int32.ofInt (i))), (2, .ref (598)), (1, .ref (0)), (0, .ref (1000000))] [] M Q := by
  have hC_M := cv.1
  have hne := cv.2.2.2.1
  have hz4 := cv.2.2.2.2.1
  have hS8 := cv.2.2.2.2.2
  refine jr.aload_n rfl rfl ?_
  refine jr.aload_n rfl rfl ?_
  refine jr.iload_n rfl rfl ?_
  refine jr.iconst rfl ?_
  refine jr.iadd rfl ?_
  obtain ⟨v1, e1⟩ : ∃ z_, (xs (i + 1).toNat).toInt = z_ := ⟨_, rfl⟩
  have b1 : -2147483648 ≤ v1 ∧ v1 ≤ 2147483647 := by rw [← e1]; exact jb_any _
  refine jr.ials (i := (i + 1)) v1 rfl (by decide) hA0 (by omega) (by omega) (by omega) (by rw [← e1]; exact (Int32.ofInt_toInt _).symm) ?_
  refine jr_v rfl rfl (Or.inl rfl) rfl rfl (nlt rfl) rfl ⟨rfl, Nat.le_of_ble_eq_true rfl, Nat.le_of_ble_eq_true rfl⟩ rfl (jc.deep (c_PacketWall_tick_x cv.1 (FR.rfl _ M) (by omega) rfl rfl rfl (by omega) (fun r2 M2 hC_M2 hf_M2 z2 w2_0 => ?_)) (Nat.le_of_ble_eq_true rfl))
  have cv1 : CV M2 L (M2 0 8) := ⟨hC_M2, (cv.2.1.fr hf_M2 rfl), (cv.2.2.1.fr cv.1 hf_M2 rfl), (by rw [hf_M2.g (show kd 413 = 44 from rfl) rfl, hf_M2.g (show kd 421 = 22 from rfl) rfl]; exact cv.2.2.2.1), ((hf_M2.g (show kd 421 = 22 from rfl) rfl).trans cv.2.2.2.2.1), rfl⟩
  have rv1 : RV M2 L2 S := RV.tr rv (fun a i ha => hf_M2.g (kd_hi ha) rfl)
  have rd1 : RDA M M2 := rd.rr rv.2.2.2.1 rv.1 (fun a i ha => hf_M2.g (kd_hi ha) rfl)
  refine jr.pop rfl rfl ?_
  refine jr.aload_n rfl rfl ?_
  refine jr.aload_n rfl rfl ?_
  refine jr.iload_n rfl rfl ?_
  refine jr.iconst rfl ?_
  refine jr.iadd rfl ?_
  refine jr.ials (i := (i + 1)) v1 rfl (by decide) hA0 (by omega) (by omega) (by omega) (by rw [← e1]; exact (Int32.ofInt_toInt _).symm) ?_
  refine jr_v rfl rfl (Or.inl rfl) rfl rfl (nlt rfl) rfl ⟨rfl, Nat.le_of_ble_eq_true rfl, Nat.le_of_ble_eq_true rfl⟩ rfl (jc.deep (r_tick_x rv1.1 rv1.2.1 rv1.2.2.1 (by omega) (by rw [rv1.2.2.2.2.2.2.2.1]; omega) rv1.2.2.2.1 (fun r3 M3 hI hH hF z3 w3 hg hf hk => ?_)) (Nat.le_of_ble_eq_true rfl))
  have cv2 : CV M3 L (M2 0 8) := cv1.z (fun a i ha => hf a i (by omega) (by omega) (by omega) (by omega))
  have rv2 : RV M3 L2 (M3 598 2) := ⟨hI, hH, hF, hg, by rw [show M3 650 = M2 650 from funext (fun i => hf 650 i (nne rfl) (nne rfl) (nne rfl) (nne rfl))]; exact rv1.2.2.2.2.1, (MC.fr rv1.2.2.2.2.2.1 (fun i => hf 652 i (nne rfl) (nne rfl) (nne rfl) (nne rfl)) (fun i => hf 653 i (nne rfl) (nne rfl) (nne rfl) (nne rfl)) (fun i => hf 654 i (nne rfl) (nne rfl) (nne rfl) (nne rfl)) (fun i => hf 655 i (nne rfl) (nne rfl) (nne rfl) (nne rfl)) (hk 82 (zne rfl))), (AS.fr rv1.2.2.2.2.2.2.1 (fun i => hf 685 i (nne rfl) (nne rfl) (nne rfl) (nne rfl)) (hk 112 (zne rfl))), rfl, X7.fr rv1.2.2.2.2.2.2.2.2 (fun i => hf 647 i (nne rfl) (nne rfl) (nne rfl) (nne rfl))⟩
  have ho := op_tick rd1 rv1.2.2.2.1 rv1.1 (hS8.trans rv1.2.2.2.2.2.2.2.1.symm) hf_M2 w2_0 w3 hf hk
  have rd2 : RDA M3 M3 := ho.1.c (fun a i ha => hf a i (by omega) (by omega) (by omega) (by omega))
  have heq : r2 = r3 := ho.2
  have eS := rv1.2.2.2.2.2.2.2.1
  have ht1 : ((1 ≤ v1 ∧ v1 ≤ 1000) ∧ M2 0 8 = M 0 8 + v1) ∨ (¬ (1 ≤ v1 ∧ v1 ≤ 1000) ∧ M2 0 8 = M 0 8) := w2_0.elim (fun u => Or.inl ⟨u.1, u.2.2.1⟩) (fun u => Or.inr ⟨u.1, by rw [u.2.2]⟩)
  have ht2 : ((1 ≤ v1 ∧ v1 ≤ 1000) ∧ M3 598 2 = M2 598 2 + v1) ∨ (¬ (1 ≤ v1 ∧ v1 ≤ 1000) ∧ M3 598 2 = M2 598 2) := w3.elim (fun u => Or.inl ⟨u.1, u.2.2.1⟩) (fun u => Or.inr ⟨u.1, by rw [u.2.2]⟩)
  refine jr.pop rfl rfl ?_
  refine jr.goto rfl rfl ?_
  exact k _ (M2 0 8) (by omega) (by omega) (cv2.le (by omega)) ((show RV M3 L2 (M2 0 8) from by rw [show M2 0 8 = M3 598 2 from by omega]; exact rv2).le (by omega)) rd2
theorem lop_18 {A : Nat → Option (Nat × (Nat → Int32))} [HA A] {Q : Option Value → jm → Prop} {N : Nat} {xs : Nat → Int32} (hA0 : A 0 = some (N, xs)) (hN : N ≤ 4000) {M : jm} {L L2 S i : Int} (cv : CV M L S) (rv : RV M L2 S) (rd : RDA M M) (hS : 0 ≤ S ∧ S ≤ 900000) (hL : 0 ≤ L ∧ L ≤ 1900000000) (hL2 : 0 ≤ L2 ∧ L2 ≤ 1900000000) (hi : 0 ≤ i ∧ i + 6 ≤ N) (k : ∀ (M' : jm) (S' : Int), S ≤ S' → S' ≤ S + 1000 → CV M' (L + 1000000) S' → RV M' (L2 + 2689623) S' → RDA M' M' → jr A 364 xm_law 1328 [(3, .int (Int32.ofInt (i))), (2, .ref (598)), (1, .ref (0)), (0, .ref (1000000))] [] M' Q) : jr A 364 xm_law 762 [(3, .int (Int32.ofInt (i))), (2, .ref (598)), (1, .ref (0)), (0, .ref (1000000))] [] M Q := by
  have hC_M := cv.1
  have hne := cv.2.2.2.1
  have hz4 := cv.2.2.2.2.1
  have hS8 := cv.2.2.2.2.2
  refine jr.aload_n rfl rfl ?_
  refine jr.aload_n rfl rfl ?_
  refine jr.iload_n rfl rfl ?_
  refine jr.iconst rfl ?_
  refine jr.iadd rfl ?_
  obtain ⟨v1, e1⟩ : ∃ z_, (xs (i + 1).toNat).toInt = z_ := ⟨_, rfl⟩
  have b1 : -2147483648 ≤ v1 ∧ v1 ≤ 2147483647 := by rw [← e1]; exact jb_any _
  refine jr.ials (i := (i + 1)) v1 rfl (by decide) hA0 (by omega) (by omega) (by omega) (by rw [← e1]; exact (Int32.ofInt_toInt _).symm) ?_
  refine jr_v rfl rfl (Or.inl rfl) rfl rfl (nlt rfl) rfl ⟨rfl, Nat.le_of_ble_eq_true rfl, Nat.le_of_ble_eq_true rfl⟩ rfl (jc.deep (c_PacketWall_track_x cv.1 (FR.rfl _ M) (by omega) rfl rfl rfl (rd.2.1.b rv.1) (by omega) (fun r2 M2 hC_M2 hf_M2 z2 w2_0 => ?_)) (Nat.le_of_ble_eq_true rfl))
  have cv1 : CV M2 L S := ⟨hC_M2, (cv.2.1.fr hf_M2 rfl), (cv.2.2.1.fr cv.1 hf_M2 rfl), (by rw [hf_M2.g (show kd 413 = 44 from rfl) rfl, hf_M2.g (show kd 421 = 22 from rfl) rfl]; exact cv.2.2.2.1), ((hf_M2.g (show kd 421 = 22 from rfl) rfl).trans cv.2.2.2.2.1), ((hf_M2.g (show kd 0 = 35 from rfl) rfl).trans cv.2.2.2.2.2)⟩
  have rv1 : RV M2 L2 S := RV.tr rv (fun a i ha => hf_M2.g (kd_hi ha) rfl)
  have rd1 : RDA M M2 := rd.rr rv.2.2.2.1 rv.1 (fun a i ha => hf_M2.g (kd_hi ha) rfl)
  rw [rf_hi (fun a i ha => hf_M2.g (kd_hi ha) rfl)] at w2_0
  refine jr.pop rfl rfl ?_
  refine jr.aload_n rfl rfl ?_
  refine jr.aload_n rfl rfl ?_
  refine jr.iload_n rfl rfl ?_
  refine jr.iconst rfl ?_
  refine jr.iadd rfl ?_
  refine jr.ials (i := (i + 1)) v1 rfl (by decide) hA0 (by omega) (by omega) (by omega) (by rw [← e1]; exact (Int32.ofInt_toInt _).symm) ?_
  refine jr_v rfl rfl (Or.inl rfl) rfl rfl (nlt rfl) rfl ⟨rfl, Nat.le_of_ble_eq_true rfl, Nat.le_of_ble_eq_true rfl⟩ rfl (jc.deep (r_track_x rv1.1 rv1.2.1 rv1.2.2.1 (by omega) (fun r3 M3 hI hH hF z3 w3 hf hk => ?_)) (Nat.le_of_ble_eq_true rfl))
  have cv2 : CV M3 L S := cv1.z (fun a i ha => hf a i (by omega) (by omega) (by omega) (by omega) (by omega) (by omega) (by omega) (by omega) (by omega) (by omega) (by omega) (by omega) (by omega) (by omega) (by omega) (by omega) (by omega) (by omega))
  have rv2 : RV M3 L2 S := ⟨hI, hH, hF, (RG1.fr rv1.2.2.2.1 (fun a i ha => hf a i (rG_ne ha rfl) (rG_ne ha rfl) (rG_ne ha rfl) (rG_ne ha rfl) (rG_ne ha rfl) (rG_ne ha rfl) (rG_ne ha rfl) (rG_ne ha rfl) (rG_ne ha rfl) (rG_ne ha rfl) (rG_ne ha rfl) (rG_ne ha rfl) (rG_ne ha rfl) (rG_ne ha rfl) (rG_ne ha rfl) (rG_ne ha rfl) (rG_ne ha rfl) (rG_ne ha rfl))), by rw [show M3 650 = M2 650 from funext (fun i => hf 650 i (nne rfl) (nne rfl) (nne rfl) (nne rfl) (nne rfl) (nne rfl) (nne rfl) (nne rfl) (nne rfl) (nne rfl) (nne rfl) (nne rfl) (nne rfl) (nne rfl) (nne rfl) (nne rfl) (nne rfl) (nne rfl))]; exact rv1.2.2.2.2.1, (MC.fr rv1.2.2.2.2.2.1 (fun i => hf 652 i (nne rfl) (nne rfl) (nne rfl) (nne rfl) (nne rfl) (nne rfl) (nne rfl) (nne rfl) (nne rfl) (nne rfl) (nne rfl) (nne rfl) (nne rfl) (nne rfl) (nne rfl) (nne rfl) (nne rfl) (nne rfl)) (fun i => hf 653 i (nne rfl) (nne rfl) (nne rfl) (nne rfl) (nne rfl) (nne rfl) (nne rfl) (nne rfl) (nne rfl) (nne rfl) (nne rfl) (nne rfl) (nne rfl) (nne rfl) (nne rfl) (nne rfl) (nne rfl) (nne rfl)) (fun i => hf 654 i (nne rfl) (nne rfl) (nne rfl) (nne rfl) (nne rfl) (nne rfl) (nne rfl) (nne rfl) (nne rfl) (nne rfl) (nne rfl) (nne rfl) (nne rfl) (nne rfl) (nne rfl) (nne rfl) (nne rfl) (nne rfl)) (fun i => hf 655 i (nne rfl) (nne rfl) (nne rfl) (nne rfl) (nne rfl) (nne rfl) (nne rfl) (nne rfl) (nne rfl) (nne rfl) (nne rfl) (nne rfl) (nne rfl) (nne rfl) (nne rfl) (nne rfl) (nne rfl) (nne rfl)) (hk 82 (zne rfl) (zne rfl) (zne rfl) (zne rfl) (zne rfl) (zne rfl) (zne rfl) (zne rfl) (zne rfl) (zne rfl) (zne rfl) (zne rfl))), (AS.fr rv1.2.2.2.2.2.2.1 (fun i => hf 685 i (nne rfl) (nne rfl) (nne rfl) (nne rfl) (nne rfl) (nne rfl) (nne rfl) (nne rfl) (nne rfl) (nne rfl) (nne rfl) (nne rfl) (nne rfl) (nne rfl) (nne rfl) (nne rfl) (nne rfl) (nne rfl)) (hk 112 (zne rfl) (zne rfl) (zne rfl) (zne rfl) (zne rfl) (zne rfl) (zne rfl) (zne rfl) (zne rfl) (zne rfl) (zne rfl) (zne rfl))), ((hk 2 (zne rfl) (zne rfl) (zne rfl) (zne rfl) (zne rfl) (zne rfl) (zne rfl) (zne rfl) (zne rfl) (zne rfl) (zne rfl) (zne rfl)).trans rv1.2.2.2.2.2.2.2.1), X7.fr rv1.2.2.2.2.2.2.2.2 (fun i => hf 647 i (nne rfl) (nne rfl) (nne rfl) (nne rfl) (nne rfl) (nne rfl) (nne rfl) (nne rfl) (nne rfl) (nne rfl) (nne rfl) (nne rfl) (nne rfl) (nne rfl) (nne rfl) (nne rfl) (nne rfl) (nne rfl))⟩
  have ho := op_track rd1 rv1.2.2.2.1 rv1.1 (hS8.trans rv1.2.2.2.2.2.2.2.1.symm) rv1.2.2.2.2.2.2.2.2 hf_M2 w2_0 w3 hf hk
  have rd2 : RDA M3 M3 := ho.1.c (fun a i ha => hf a i (by omega) (by omega) (by omega) (by omega) (by omega) (by omega) (by omega) (by omega) (by omega) (by omega) (by omega) (by omega) (by omega) (by omega) (by omega) (by omega) (by omega) (by omega))
  have heq : r2 = r3 := ho.2
  refine jr.pop rfl rfl ?_
  refine jr.goto rfl rfl ?_
  exact k _ _ (Int.le_refl _) (by omega) (cv2.le (by omega)) (rv2.le (by omega)) rd2
theorem lop_19 {A : Nat → Option (Nat × (Nat → Int32))} [HA A] {Q : Option Value → jm → Prop} {N : Nat} {xs : Nat → Int32} (hA0 : A 0 = some (N, xs)) (hN : N ≤ 4000) {M : jm} {L L2 S i : Int} (cv : CV M L S) (rv : RV M L2 S) (rd : RDA M M) (hS : 0 ≤ S ∧ S ≤ 900000) (hL : 0 ≤ L ∧ L ≤ 1900000000) (hL2 : 0 ≤ L2 ∧ L2 ≤ 1900000000) (hi : 0 ≤ i ∧ i + 6 ≤ N) (k : ∀ (M' : jm) (S' : Int), S ≤ S' → S' ≤ S + 1000 → CV M' (L + 1000000) S' → RV M' (L2 + 2689623) S' → RDA M' M' → jr A 364 xm_law 1328 [(3, .int (Int32.ofInt (i))), (2, .ref (598)), (1, .ref (0)), (0, .ref (1000000))] [] M' Q) : jr A 364 xm_law 785 [(3, .int (Int32.ofInt (i))), (2, .ref (598)), (1, .ref (0)), (0, .ref (1000000))] [] M Q := by
  have hC_M := cv.1
  have hne := cv.2.2.2.1
  have hz4 := cv.2.2.2.2.1
  have hS8 := cv.2.2.2.2.2
  refine jr.aload_n rfl rfl ?_
  refine jr.aload_n rfl rfl ?_
  refine jr.iload_n rfl rfl ?_
  refine jr.iconst rfl ?_
  refine jr.iadd rfl ?_
  obtain ⟨v1, e1⟩ : ∃ z_, (xs (i + 1).toNat).toInt = z_ := ⟨_, rfl⟩
  have b1 : -2147483648 ≤ v1 ∧ v1 ≤ 2147483647 := by rw [← e1]; exact jb_any _
  refine jr.ials (i := (i + 1)) v1 rfl (by decide) hA0 (by omega) (by omega) (by omega) (by rw [← e1]; exact (Int32.ofInt_toInt _).symm) ?_
  refine jr.aload_n rfl rfl ?_
  refine jr.iload_n rfl rfl ?_
  refine jr.iconst rfl ?_
  refine jr.iadd rfl ?_
  obtain ⟨v2, e2⟩ : ∃ z_, (xs (i + 2).toNat).toInt = z_ := ⟨_, rfl⟩
  have b2 : -2147483648 ≤ v2 ∧ v2 ≤ 2147483647 := by rw [← e2]; exact jb_any _
  refine jr.ials (i := (i + 2)) v2 rfl (by decide) hA0 (by omega) (by omega) (by omega) (by rw [← e2]; exact (Int32.ofInt_toInt _).symm) ?_
  refine jr_v rfl rfl (Or.inl rfl) rfl rfl (nlt rfl) rfl ⟨rfl, Nat.le_of_ble_eq_true rfl, Nat.le_of_ble_eq_true rfl⟩ rfl (jc.deep (c_PacketWall_flow_x cv.1 (by omega) (by omega) rfl (fun r3 z3 w3_0 => ?_)) (Nat.le_of_ble_eq_true rfl))
  refine jr.pop rfl rfl ?_
  refine jr.aload_n rfl rfl ?_
  refine jr.aload_n rfl rfl ?_
  refine jr.iload_n rfl rfl ?_
  refine jr.iconst rfl ?_
  refine jr.iadd rfl ?_
  refine jr.ials (i := (i + 1)) v1 rfl (by decide) hA0 (by omega) (by omega) (by omega) (by rw [← e1]; exact (Int32.ofInt_toInt _).symm) ?_
  refine jr.aload_n rfl rfl ?_
  refine jr.iload_n rfl rfl ?_
  refine jr.iconst rfl ?_
  refine jr.iadd rfl ?_
  refine jr.ials (i := (i + 2)) v2 rfl (by decide) hA0 (by omega) (by omega) (by omega) (by rw [← e2]; exact (Int32.ofInt_toInt _).symm) ?_
  refine jr_v rfl rfl (Or.inl rfl) rfl rfl (nlt rfl) rfl ⟨rfl, Nat.le_of_ble_eq_true rfl, Nat.le_of_ble_eq_true rfl⟩ rfl (jc.deep (r_flow_x rv.1 rv.2.1 rv.2.2.1 (by omega) (by omega) (fun r4 M4 hI hH hF z4 w4 hM hf hk => ?_)) (Nat.le_of_ble_eq_true rfl))
  have cv2 : CV M4 L S := by rw [hM]; exact cv
  have rv2 : RV M4 L2 S := by rw [hM]; exact rv
  have heq : r3 = r4 := op_flow rd (hS8.trans rv.2.2.2.2.2.2.2.1.symm) w3_0 w4
  have rd2 : RDA M4 M4 := by rw [hM]; exact rd
  refine jr.pop rfl rfl ?_
  refine jr.goto rfl rfl ?_
  exact k _ _ (Int.le_refl _) (by omega) (cv2.le (by omega)) (rv2.le (by omega)) rd2
end
section
/-! ===== the calls of the law, 2 ===== -/
theorem lop_20 {A : Nat → Option (Nat × (Nat → Int32))} [HA A] {Q : Option Value → jm → Prop} {N : Nat} {xs : Nat → Int32} (hA0 : A 0 = some (N, xs)) (hN : N ≤ 4000) {M : jm} {L L2 S i : Int} (cv : CV M L S) (rv : RV M L2 S) (rd : RDA M M) (hS : 0 ≤ S ∧ S ≤ 900000) (hL : 0 ≤ L ∧ L ≤ 1900000000) (hL2 : 0 ≤ L2 ∧ L2 ≤ 1900000000) (hi : 0 ≤ i ∧ i + 6 ≤ N) (k : ∀ (M' : jm) (S' : Int), S ≤ S' → S' ≤ S + 1000 → CV M' (L + 1000000) S' → RV M' (L2 + 2689623) S' → RDA M' M' → jr A 364 xm_law 1328 [(3, .int (Int32.ofInt (i))), (2, .ref (598)), (1, .ref (0)), (0, .ref (1000000))] [] M' Q) : jr A 364 xm_law 818 [(3, .int (Int32.ofInt (i))), (2, .ref (598)), (1, .ref (0)), (0, .ref (1000000))] [] M Q := by
  have hC_M := cv.1
  have hne := cv.2.2.2.1
  have hz4 := cv.2.2.2.2.1
  have hS8 := cv.2.2.2.2.2
  refine jr.aload_n rfl rfl ?_
  refine jr.aload_n rfl rfl ?_
  refine jr.iload_n rfl rfl ?_
  refine jr.iconst rfl ?_
  refine jr.iadd rfl ?_
  obtain ⟨v1, e1⟩ : ∃ z_, (xs (i + 1).toNat).toInt = z_ := ⟨_, rfl⟩
  have b1 : -2147483648 ≤ v1 ∧ v1 ≤ 2147483647 := by rw [← e1]; exact jb_any _
  refine jr.ials (i := (i + 1)) v1 rfl (by decide) hA0 (by omega) (by omega) (by omega) (by rw [← e1]; exact (Int32.ofInt_toInt _).symm) ?_
  refine jr.aload_n rfl rfl ?_
  refine jr.iload_n rfl rfl ?_
  refine jr.iconst rfl ?_
  refine jr.iadd rfl ?_
  obtain ⟨v2, e2⟩ : ∃ z_, (xs (i + 2).toNat).toInt = z_ := ⟨_, rfl⟩
  have b2 : -2147483648 ≤ v2 ∧ v2 ≤ 2147483647 := by rw [← e2]; exact jb_any _
  refine jr.ials (i := (i + 2)) v2 rfl (by decide) hA0 (by omega) (by omega) (by omega) (by rw [← e2]; exact (Int32.ofInt_toInt _).symm) ?_
  refine jr_v rfl rfl (Or.inl rfl) rfl rfl (nlt rfl) rfl ⟨rfl, Nat.le_of_ble_eq_true rfl, Nat.le_of_ble_eq_true rfl⟩ rfl (jc.deep (c_PacketWall_flowed_x cv.1 (by omega) (by omega) rfl (fun r3 z3 w3_0 => ?_)) (Nat.le_of_ble_eq_true rfl))
  refine jr.pop2 rfl ?_
  refine jr.aload_n rfl rfl ?_
  refine jr.aload_n rfl rfl ?_
  refine jr.iload_n rfl rfl ?_
  refine jr.iconst rfl ?_
  refine jr.iadd rfl ?_
  refine jr.ials (i := (i + 1)) v1 rfl (by decide) hA0 (by omega) (by omega) (by omega) (by rw [← e1]; exact (Int32.ofInt_toInt _).symm) ?_
  refine jr.aload_n rfl rfl ?_
  refine jr.iload_n rfl rfl ?_
  refine jr.iconst rfl ?_
  refine jr.iadd rfl ?_
  refine jr.ials (i := (i + 2)) v2 rfl (by decide) hA0 (by omega) (by omega) (by omega) (by rw [← e2]; exact (Int32.ofInt_toInt _).symm) ?_
  refine jr_v rfl rfl (Or.inl rfl) rfl rfl (nlt rfl) rfl ⟨rfl, Nat.le_of_ble_eq_true rfl, Nat.le_of_ble_eq_true rfl⟩ rfl (jc.deep (r_flowed_x rv.1 rv.2.1 rv.2.2.1 (by omega) (by omega) (fun r4 M4 hI hH hF z4 w4 hM hf hk => ?_)) (Nat.le_of_ble_eq_true rfl))
  have cv2 : CV M4 L S := by rw [hM]; exact cv
  have rv2 : RV M4 L2 S := by rw [hM]; exact rv
  have heq : r3 = r4 := op_flowed rd w3_0 w4
  have rd2 : RDA M4 M4 := by rw [hM]; exact rd
  refine jr.pop2 rfl ?_
  refine jr.goto rfl rfl ?_
  exact k _ _ (Int.le_refl _) (by omega) (cv2.le (by omega)) (rv2.le (by omega)) rd2
theorem lop_21 {A : Nat → Option (Nat × (Nat → Int32))} [HA A] {Q : Option Value → jm → Prop} {N : Nat} {xs : Nat → Int32} (hA0 : A 0 = some (N, xs)) (hN : N ≤ 4000) {M : jm} {L L2 S i : Int} (cv : CV M L S) (rv : RV M L2 S) (rd : RDA M M) (hS : 0 ≤ S ∧ S ≤ 900000) (hL : 0 ≤ L ∧ L ≤ 1900000000) (hL2 : 0 ≤ L2 ∧ L2 ≤ 1900000000) (hi : 0 ≤ i ∧ i + 6 ≤ N) (k : ∀ (M' : jm) (S' : Int), S ≤ S' → S' ≤ S + 1000 → CV M' (L + 1000000) S' → RV M' (L2 + 2689623) S' → RDA M' M' → jr A 364 xm_law 1328 [(3, .int (Int32.ofInt (i))), (2, .ref (598)), (1, .ref (0)), (0, .ref (1000000))] [] M' Q) : jr A 364 xm_law 851 [(3, .int (Int32.ofInt (i))), (2, .ref (598)), (1, .ref (0)), (0, .ref (1000000))] [] M Q := by
  have hC_M := cv.1
  have hne := cv.2.2.2.1
  have hz4 := cv.2.2.2.2.1
  have hS8 := cv.2.2.2.2.2
  refine jr.aload_n rfl rfl ?_
  refine jr.aload_n rfl rfl ?_
  refine jr.iload_n rfl rfl ?_
  refine jr.iconst rfl ?_
  refine jr.iadd rfl ?_
  obtain ⟨v1, e1⟩ : ∃ z_, (xs (i + 1).toNat).toInt = z_ := ⟨_, rfl⟩
  have b1 : -2147483648 ≤ v1 ∧ v1 ≤ 2147483647 := by rw [← e1]; exact jb_any _
  refine jr.ials (i := (i + 1)) v1 rfl (by decide) hA0 (by omega) (by omega) (by omega) (by rw [← e1]; exact (Int32.ofInt_toInt _).symm) ?_
  refine jr_v rfl rfl (Or.inl rfl) rfl rfl (nlt rfl) rfl ⟨rfl, Nat.le_of_ble_eq_true rfl, Nat.le_of_ble_eq_true rfl⟩ rfl (jc.deep (c_PacketWall_close_x cv.1 (FR.rfl _ M) (by omega) rfl rfl (fun r2 M2 hC_M2 hf_M2 z2 w2_0 => ?_)) (Nat.le_of_ble_eq_true rfl))
  have cv1 : CV M2 L S := ⟨hC_M2, (cv.2.1.fr hf_M2 rfl), (cv.2.2.1.fr cv.1 hf_M2 rfl), (by rw [hf_M2.g (show kd 413 = 44 from rfl) rfl, hf_M2.g (show kd 421 = 22 from rfl) rfl]; exact cv.2.2.2.1), ((hf_M2.g (show kd 421 = 22 from rfl) rfl).trans cv.2.2.2.2.1), ((hf_M2.g (show kd 0 = 35 from rfl) rfl).trans cv.2.2.2.2.2)⟩
  have rv1 : RV M2 L2 S := RV.tr rv (fun a i ha => hf_M2.g (kd_hi ha) rfl)
  have rd1 : RDA M M2 := rd.rr rv.2.2.2.1 rv.1 (fun a i ha => hf_M2.g (kd_hi ha) rfl)
  refine jr.pop rfl rfl ?_
  refine jr.aload_n rfl rfl ?_
  refine jr.aload_n rfl rfl ?_
  refine jr.iload_n rfl rfl ?_
  refine jr.iconst rfl ?_
  refine jr.iadd rfl ?_
  refine jr.ials (i := (i + 1)) v1 rfl (by decide) hA0 (by omega) (by omega) (by omega) (by rw [← e1]; exact (Int32.ofInt_toInt _).symm) ?_
  refine jr_v rfl rfl (Or.inl rfl) rfl rfl (nlt rfl) rfl ⟨rfl, Nat.le_of_ble_eq_true rfl, Nat.le_of_ble_eq_true rfl⟩ rfl (jc.deep (r_close_x rv1.1 rv1.2.1 rv1.2.2.1 (by omega) (fun r3 M3 hI hH hF z3 w3 hf => ?_)) (Nat.le_of_ble_eq_true rfl))
  have cv2 : CV M3 L S := cv1.z (fun a i ha => hf a i (by omega))
  have rv2 : RV M3 L2 S := ⟨hI, hH, hF, (RG1.fr rv1.2.2.2.1 (fun a i ha => hf a i (rG_ne ha rfl))), by rw [show M3 650 = M2 650 from funext (fun i => hf 650 i (nne rfl))]; exact rv1.2.2.2.2.1, (MC.fr rv1.2.2.2.2.2.1 (fun i => hf 652 i (nne rfl)) (fun i => hf 653 i (nne rfl)) (fun i => hf 654 i (nne rfl)) (fun i => hf 655 i (nne rfl)) (hf 598 82 (nne rfl))), (AS.fr rv1.2.2.2.2.2.2.1 (fun i => hf 685 i (nne rfl)) (hf 598 112 (nne rfl))), ((hf 598 2 (nne rfl)).trans rv1.2.2.2.2.2.2.2.1), X7.fr rv1.2.2.2.2.2.2.2.2 (fun i => hf 647 i (nne rfl))⟩
  have ho := op_close rd1 rv1.2.2.2.1 rv1.1 hf_M2 w2_0 w3 hf
  have rd2 : RDA M3 M3 := ho.1.c (fun a i ha => hf a i (by omega))
  have heq : r2 = r3 := ho.2
  refine jr.pop rfl rfl ?_
  refine jr.goto rfl rfl ?_
  exact k _ _ (Int.le_refl _) (by omega) (cv2.le (by omega)) (rv2.le (by omega)) rd2
theorem lop_22 {A : Nat → Option (Nat × (Nat → Int32))} [HA A] {Q : Option Value → jm → Prop} {N : Nat} {xs : Nat → Int32} (hA0 : A 0 = some (N, xs)) (hN : N ≤ 4000) {M : jm} {L L2 S i : Int} (cv : CV M L S) (rv : RV M L2 S) (rd : RDA M M) (hS : 0 ≤ S ∧ S ≤ 900000) (hL : 0 ≤ L ∧ L ≤ 1900000000) (hL2 : 0 ≤ L2 ∧ L2 ≤ 1900000000) (hi : 0 ≤ i ∧ i + 6 ≤ N) (k : ∀ (M' : jm) (S' : Int), S ≤ S' → S' ≤ S + 1000 → CV M' (L + 1000000) S' → RV M' (L2 + 2689623) S' → RDA M' M' → jr A 364 xm_law 1328 [(3, .int (Int32.ofInt (i))), (2, .ref (598)), (1, .ref (0)), (0, .ref (1000000))] [] M' Q) : jr A 364 xm_law 874 [(3, .int (Int32.ofInt (i))), (2, .ref (598)), (1, .ref (0)), (0, .ref (1000000))] [] M Q := by
  have hC_M := cv.1
  have hne := cv.2.2.2.1
  have hz4 := cv.2.2.2.2.1
  have hS8 := cv.2.2.2.2.2
  refine jr.aload_n rfl rfl ?_
  refine jr.aload_n rfl rfl ?_
  refine jr.iload_n rfl rfl ?_
  refine jr.iconst rfl ?_
  refine jr.iadd rfl ?_
  obtain ⟨v1, e1⟩ : ∃ z_, (xs (i + 1).toNat).toInt = z_ := ⟨_, rfl⟩
  have b1 : -2147483648 ≤ v1 ∧ v1 ≤ 2147483647 := by rw [← e1]; exact jb_any _
  refine jr.ials (i := (i + 1)) v1 rfl (by decide) hA0 (by omega) (by omega) (by omega) (by rw [← e1]; exact (Int32.ofInt_toInt _).symm) ?_
  refine jr.aload_n rfl rfl ?_
  refine jr.iload_n rfl rfl ?_
  refine jr.iconst rfl ?_
  refine jr.iadd rfl ?_
  obtain ⟨v2, e2⟩ : ∃ z_, (xs (i + 2).toNat).toInt = z_ := ⟨_, rfl⟩
  have b2 : -2147483648 ≤ v2 ∧ v2 ≤ 2147483647 := by rw [← e2]; exact jb_any _
  refine jr.ials (i := (i + 2)) v2 rfl (by decide) hA0 (by omega) (by omega) (by omega) (by rw [← e2]; exact (Int32.ofInt_toInt _).symm) ?_
  refine jr.aload_n rfl rfl ?_
  refine jr.iload_n rfl rfl ?_
  refine jr.iconst rfl ?_
  refine jr.iadd rfl ?_
  obtain ⟨v3, e3⟩ : ∃ z_, (xs (i + 3).toNat).toInt = z_ := ⟨_, rfl⟩
  have b3 : -2147483648 ≤ v3 ∧ v3 ≤ 2147483647 := by rw [← e3]; exact jb_any _
  refine jr.ials (i := (i + 3)) v3 rfl (by decide) hA0 (by omega) (by omega) (by omega) (by rw [← e3]; exact (Int32.ofInt_toInt _).symm) ?_
  refine jr.aload_n rfl rfl ?_
  refine jr.iload_n rfl rfl ?_
  refine jr.iconst rfl ?_
  refine jr.iadd rfl ?_
  obtain ⟨v4, e4⟩ : ∃ z_, (xs (i + 4).toNat).toInt = z_ := ⟨_, rfl⟩
  have b4 : -2147483648 ≤ v4 ∧ v4 ≤ 2147483647 := by rw [← e4]; exact jb_any _
  refine jr.ials (i := (i + 4)) v4 rfl (by decide) hA0 (by omega) (by omega) (by omega) (by rw [← e4]; exact (Int32.ofInt_toInt _).symm) ?_
  refine jr_v rfl rfl (Or.inl rfl) rfl rfl (nlt rfl) rfl ⟨rfl, Nat.le_of_ble_eq_true rfl, Nat.le_of_ble_eq_true rfl⟩ rfl (jc.deep (c_PacketWall_pool_x cv.1 (FR.rfl _ M) (by omega) (by omega) (by omega) (by omega) rfl rfl (fun r5 M5 hC_M5 hf_M5 z5 w5_0 => ?_)) (Nat.le_of_ble_eq_true rfl))
  have cv1 : CV M5 L S := ⟨hC_M5, (cv.2.1.fr hf_M5 rfl), (cv.2.2.1.fr cv.1 hf_M5 rfl), (by rw [hf_M5.g (show kd 413 = 44 from rfl) rfl, hf_M5.g (show kd 421 = 22 from rfl) rfl]; exact cv.2.2.2.1), ((hf_M5.g (show kd 421 = 22 from rfl) rfl).trans cv.2.2.2.2.1), ((hf_M5.g (show kd 0 = 35 from rfl) rfl).trans cv.2.2.2.2.2)⟩
  have rv1 : RV M5 L2 S := RV.tr rv (fun a i ha => hf_M5.g (kd_hi ha) rfl)
  have rd1 : RDA M M5 := rd.rr rv.2.2.2.1 rv.1 (fun a i ha => hf_M5.g (kd_hi ha) rfl)
  refine jr.pop rfl rfl ?_
  refine jr.aload_n rfl rfl ?_
  refine jr.aload_n rfl rfl ?_
  refine jr.iload_n rfl rfl ?_
  refine jr.iconst rfl ?_
  refine jr.iadd rfl ?_
  refine jr.ials (i := (i + 1)) v1 rfl (by decide) hA0 (by omega) (by omega) (by omega) (by rw [← e1]; exact (Int32.ofInt_toInt _).symm) ?_
  refine jr.aload_n rfl rfl ?_
  refine jr.iload_n rfl rfl ?_
  refine jr.iconst rfl ?_
  refine jr.iadd rfl ?_
  refine jr.ials (i := (i + 2)) v2 rfl (by decide) hA0 (by omega) (by omega) (by omega) (by rw [← e2]; exact (Int32.ofInt_toInt _).symm) ?_
  refine jr.aload_n rfl rfl ?_
  refine jr.iload_n rfl rfl ?_
  refine jr.iconst rfl ?_
  refine jr.iadd rfl ?_
  refine jr.ials (i := (i + 3)) v3 rfl (by decide) hA0 (by omega) (by omega) (by omega) (by rw [← e3]; exact (Int32.ofInt_toInt _).symm) ?_
  refine jr.aload_n rfl rfl ?_
  refine jr.iload_n rfl rfl ?_
  refine jr.iconst rfl ?_
  refine jr.iadd rfl ?_
  refine jr.ials (i := (i + 4)) v4 rfl (by decide) hA0 (by omega) (by omega) (by omega) (by rw [← e4]; exact (Int32.ofInt_toInt _).symm) ?_
  refine jr_v rfl rfl (Or.inl rfl) rfl rfl (nlt rfl) rfl ⟨rfl, Nat.le_of_ble_eq_true rfl, Nat.le_of_ble_eq_true rfl⟩ rfl (jc.deep (r_pool_x rv1.1 rv1.2.1 rv1.2.2.1 (by omega) (by omega) (by omega) (by omega) (fun r6 M6 hI hH hF z6 w6 hf => ?_)) (Nat.le_of_ble_eq_true rfl))
  have cv2 : CV M6 L S := cv1.z (fun a i ha => hf a i (by omega) (by omega) (by omega) (by omega))
  have rv2 : RV M6 L2 S := ⟨hI, hH, hF, (RG1.fr rv1.2.2.2.1 (fun a i ha => hf a i (rG_ne ha rfl) (rG_ne ha rfl) (rG_ne ha rfl) (rG_ne ha rfl))), by rw [show M6 650 = M5 650 from funext (fun i => hf 650 i (nne rfl) (nne rfl) (nne rfl) (nne rfl))]; exact rv1.2.2.2.2.1, (MC.fr rv1.2.2.2.2.2.1 (fun i => hf 652 i (nne rfl) (nne rfl) (nne rfl) (nne rfl)) (fun i => hf 653 i (nne rfl) (nne rfl) (nne rfl) (nne rfl)) (fun i => hf 654 i (nne rfl) (nne rfl) (nne rfl) (nne rfl)) (fun i => hf 655 i (nne rfl) (nne rfl) (nne rfl) (nne rfl)) (hf 598 82 (nne rfl) (nne rfl) (nne rfl) (nne rfl))), (AS.fr rv1.2.2.2.2.2.2.1 (fun i => hf 685 i (nne rfl) (nne rfl) (nne rfl) (nne rfl)) (hf 598 112 (nne rfl) (nne rfl) (nne rfl) (nne rfl))), ((hf 598 2 (nne rfl) (nne rfl) (nne rfl) (nne rfl)).trans rv1.2.2.2.2.2.2.2.1), X7.fr rv1.2.2.2.2.2.2.2.2 (fun i => hf 647 i (nne rfl) (nne rfl) (nne rfl) (nne rfl))⟩
  have ho := op_pool rd1 rv1.2.2.2.1 rv1.1 hf_M5 w5_0 w6 hf
  have rd2 : RDA M6 M6 := ho.1.c (fun a i ha => hf a i (by omega) (by omega) (by omega) (by omega))
  have heq : r5 = r6 := ho.2
  refine jr.pop rfl rfl ?_
  refine jr.goto rfl rfl ?_
  exact k _ _ (Int.le_refl _) (by omega) (cv2.le (by omega)) (rv2.le (by omega)) rd2
theorem lop_23 {A : Nat → Option (Nat × (Nat → Int32))} [HA A] {Q : Option Value → jm → Prop} {N : Nat} {xs : Nat → Int32} (hA0 : A 0 = some (N, xs)) (hN : N ≤ 4000) {M : jm} {L L2 S i : Int} (cv : CV M L S) (rv : RV M L2 S) (rd : RDA M M) (hS : 0 ≤ S ∧ S ≤ 900000) (hL : 0 ≤ L ∧ L ≤ 1900000000) (hL2 : 0 ≤ L2 ∧ L2 ≤ 1900000000) (hi : 0 ≤ i ∧ i + 6 ≤ N) (k : ∀ (M' : jm) (S' : Int), S ≤ S' → S' ≤ S + 1000 → CV M' (L + 1000000) S' → RV M' (L2 + 2689623) S' → RDA M' M' → jr A 364 xm_law 1328 [(3, .int (Int32.ofInt (i))), (2, .ref (598)), (1, .ref (0)), (0, .ref (1000000))] [] M' Q) : jr A 364 xm_law 927 [(3, .int (Int32.ofInt (i))), (2, .ref (598)), (1, .ref (0)), (0, .ref (1000000))] [] M Q := by
  have hC_M := cv.1
  have hne := cv.2.2.2.1
  have hz4 := cv.2.2.2.2.1
  have hS8 := cv.2.2.2.2.2
  refine jr.aload_n rfl rfl ?_
  refine jr.aload_n rfl rfl ?_
  refine jr.iload_n rfl rfl ?_
  refine jr.iconst rfl ?_
  refine jr.iadd rfl ?_
  obtain ⟨v1, e1⟩ : ∃ z_, (xs (i + 1).toNat).toInt = z_ := ⟨_, rfl⟩
  have b1 : -2147483648 ≤ v1 ∧ v1 ≤ 2147483647 := by rw [← e1]; exact jb_any _
  refine jr.ials (i := (i + 1)) v1 rfl (by decide) hA0 (by omega) (by omega) (by omega) (by rw [← e1]; exact (Int32.ofInt_toInt _).symm) ?_
  refine jr.aload_n rfl rfl ?_
  refine jr.iload_n rfl rfl ?_
  refine jr.iconst rfl ?_
  refine jr.iadd rfl ?_
  obtain ⟨v2, e2⟩ : ∃ z_, (xs (i + 2).toNat).toInt = z_ := ⟨_, rfl⟩
  have b2 : -2147483648 ≤ v2 ∧ v2 ≤ 2147483647 := by rw [← e2]; exact jb_any _
  refine jr.ials (i := (i + 2)) v2 rfl (by decide) hA0 (by omega) (by omega) (by omega) (by rw [← e2]; exact (Int32.ofInt_toInt _).symm) ?_
  refine jr_v rfl rfl (Or.inl rfl) rfl rfl (nlt rfl) rfl ⟨rfl, Nat.le_of_ble_eq_true rfl, Nat.le_of_ble_eq_true rfl⟩ rfl (jc.deep (c_PacketWall_change_x cv.1 (FR.rfl _ M) (by omega) (by omega) rfl rfl rfl (rd.2.2.2.2.1.1 _) (fun r3 M3 hC_M3 hf_M3 z3 w3_0 => ?_)) (Nat.le_of_ble_eq_true rfl))
  have cv1 : CV M3 L S := ⟨hC_M3, (cv.2.1.fr hf_M3 rfl), (cv.2.2.1.fr cv.1 hf_M3 rfl), (by rw [hf_M3.g (show kd 413 = 44 from rfl) rfl, hf_M3.g (show kd 421 = 22 from rfl) rfl]; exact cv.2.2.2.1), ((hf_M3.g (show kd 421 = 22 from rfl) rfl).trans cv.2.2.2.2.1), ((hf_M3.g (show kd 0 = 35 from rfl) rfl).trans cv.2.2.2.2.2)⟩
  have rv1 : RV M3 L2 S := RV.tr rv (fun a i ha => hf_M3.g (kd_hi ha) rfl)
  have rd1 : RDA M M3 := rd.rr rv.2.2.2.1 rv.1 (fun a i ha => hf_M3.g (kd_hi ha) rfl)
  refine jr.pop rfl rfl ?_
  refine jr.aload_n rfl rfl ?_
  refine jr.aload_n rfl rfl ?_
  refine jr.iload_n rfl rfl ?_
  refine jr.iconst rfl ?_
  refine jr.iadd rfl ?_
  refine jr.ials (i := (i + 1)) v1 rfl (by decide) hA0 (by omega) (by omega) (by omega) (by rw [← e1]; exact (Int32.ofInt_toInt _).symm) ?_
  refine jr.aload_n rfl rfl ?_
  refine jr.iload_n rfl rfl ?_
  refine jr.iconst rfl ?_
  refine jr.iadd rfl ?_
  refine jr.ials (i := (i + 2)) v2 rfl (by decide) hA0 (by omega) (by omega) (by omega) (by rw [← e2]; exact (Int32.ofInt_toInt _).symm) ?_
  refine jr_v rfl rfl (Or.inl rfl) rfl rfl (nlt rfl) rfl ⟨rfl, Nat.le_of_ble_eq_true rfl, Nat.le_of_ble_eq_true rfl⟩ rfl (jc.deep (r_change_x rv1.1 rv1.2.1 rv1.2.2.1 (by omega) (by omega) (fun r4 M4 hI hH hF z4 w4 hf => ?_)) (Nat.le_of_ble_eq_true rfl))
  have cv2 : CV M4 L S := cv1.z (fun a i ha => hf a i (by omega) (by omega) (by omega))
  have rv2 : RV M4 L2 S := ⟨hI, hH, hF, (RG1.fr rv1.2.2.2.1 (fun a i ha => hf a i (rG_ne ha rfl) (rG_ne ha rfl) (rG_ne ha rfl))), by rw [show M4 650 = M3 650 from funext (fun i => hf 650 i (nne rfl) (nne rfl) (nne rfl))]; exact rv1.2.2.2.2.1, (MC.fr rv1.2.2.2.2.2.1 (fun i => hf 652 i (nne rfl) (nne rfl) (nne rfl)) (fun i => hf 653 i (nne rfl) (nne rfl) (nne rfl)) (fun i => hf 654 i (nne rfl) (nne rfl) (nne rfl)) (fun i => hf 655 i (nne rfl) (nne rfl) (nne rfl)) (hf 598 82 (nne rfl) (nne rfl) (nne rfl))), (AS.fr rv1.2.2.2.2.2.2.1 (fun i => hf 685 i (nne rfl) (nne rfl) (nne rfl)) (hf 598 112 (nne rfl) (nne rfl) (nne rfl))), ((hf 598 2 (nne rfl) (nne rfl) (nne rfl)).trans rv1.2.2.2.2.2.2.2.1), X7.fr rv1.2.2.2.2.2.2.2.2 (fun i => hf 647 i (nne rfl) (nne rfl) (nne rfl))⟩
  have ho := op_change rd1 rv1.2.2.2.1 rv1.1 hf_M3 w3_0 w4 hf
  have rd2 : RDA M4 M4 := ho.1.c (fun a i ha => hf a i (by omega) (by omega) (by omega))
  have heq : r3 = r4 := ho.2
  refine jr.pop rfl rfl ?_
  refine jr.goto rfl rfl ?_
  exact k _ _ (Int.le_refl _) (by omega) (cv2.le (by omega)) (rv2.le (by omega)) rd2
theorem lop_24 {A : Nat → Option (Nat × (Nat → Int32))} [HA A] {Q : Option Value → jm → Prop} {N : Nat} {xs : Nat → Int32} (hA0 : A 0 = some (N, xs)) (hN : N ≤ 4000) {M : jm} {L L2 S i : Int} (cv : CV M L S) (rv : RV M L2 S) (rd : RDA M M) (hS : 0 ≤ S ∧ S ≤ 900000) (hL : 0 ≤ L ∧ L ≤ 1900000000) (hL2 : 0 ≤ L2 ∧ L2 ≤ 1900000000) (hi : 0 ≤ i ∧ i + 6 ≤ N) (k : ∀ (M' : jm) (S' : Int), S ≤ S' → S' ≤ S + 1000 → CV M' (L + 1000000) S' → RV M' (L2 + 2689623) S' → RDA M' M' → jr A 364 xm_law 1328 [(3, .int (Int32.ofInt (i))), (2, .ref (598)), (1, .ref (0)), (0, .ref (1000000))] [] M' Q) : jr A 364 xm_law 960 [(3, .int (Int32.ofInt (i))), (2, .ref (598)), (1, .ref (0)), (0, .ref (1000000))] [] M Q := by
  have hC_M := cv.1
  have hne := cv.2.2.2.1
  have hz4 := cv.2.2.2.2.1
  have hS8 := cv.2.2.2.2.2
  refine jr.aload_n rfl rfl ?_
  refine jr.aload_n rfl rfl ?_
  refine jr.iload_n rfl rfl ?_
  refine jr.iconst rfl ?_
  refine jr.iadd rfl ?_
  obtain ⟨v1, e1⟩ : ∃ z_, (xs (i + 1).toNat).toInt = z_ := ⟨_, rfl⟩
  have b1 : -2147483648 ≤ v1 ∧ v1 ≤ 2147483647 := by rw [← e1]; exact jb_any _
  refine jr.ials (i := (i + 1)) v1 rfl (by decide) hA0 (by omega) (by omega) (by omega) (by rw [← e1]; exact (Int32.ofInt_toInt _).symm) ?_
  refine jr_v rfl rfl (Or.inl rfl) rfl rfl (nlt rfl) rfl ⟨rfl, Nat.le_of_ble_eq_true rfl, Nat.le_of_ble_eq_true rfl⟩ rfl (jc.deep (c_PacketWall_turn_x cv.1 (FR.rfl _ M) (by omega) rfl rfl (rd.2.1.b rv.1) (fun r2 M2 hC_M2 hf_M2 z2 w2_0 => ?_)) (Nat.le_of_ble_eq_true rfl))
  have cv1 : CV M2 L S := ⟨hC_M2, (cv.2.1.fr hf_M2 rfl), (cv.2.2.1.fr cv.1 hf_M2 rfl), (by rw [hf_M2.g (show kd 413 = 44 from rfl) rfl, hf_M2.g (show kd 421 = 22 from rfl) rfl]; exact cv.2.2.2.1), ((hf_M2.g (show kd 421 = 22 from rfl) rfl).trans cv.2.2.2.2.1), ((hf_M2.g (show kd 0 = 35 from rfl) rfl).trans cv.2.2.2.2.2)⟩
  have rv1 : RV M2 L2 S := RV.tr rv (fun a i ha => hf_M2.g (kd_hi ha) rfl)
  have rd1 : RDA M M2 := rd.rr rv.2.2.2.1 rv.1 (fun a i ha => hf_M2.g (kd_hi ha) rfl)
  rw [rf_hi (fun a i ha => hf_M2.g (kd_hi ha) rfl)] at w2_0
  refine jr.pop rfl rfl ?_
  refine jr.aload_n rfl rfl ?_
  refine jr.aload_n rfl rfl ?_
  refine jr.iload_n rfl rfl ?_
  refine jr.iconst rfl ?_
  refine jr.iadd rfl ?_
  refine jr.ials (i := (i + 1)) v1 rfl (by decide) hA0 (by omega) (by omega) (by omega) (by rw [← e1]; exact (Int32.ofInt_toInt _).symm) ?_
  refine jr_v rfl rfl (Or.inl rfl) rfl rfl (nlt rfl) rfl ⟨rfl, Nat.le_of_ble_eq_true rfl, Nat.le_of_ble_eq_true rfl⟩ rfl (jc.deep (r_turn_x rv1.1 rv1.2.1 rv1.2.2.1 (by omega) (fun r3 M3 hI hH hF z3 w3 hf hk => ?_)) (Nat.le_of_ble_eq_true rfl))
  have cv2 : CV M3 L S := cv1.z (fun a i ha => hf a i (by omega) (by omega) (by omega) (by omega) (by omega))
  have rv2 : RV M3 L2 S := ⟨hI, hH, hF, (RG1.fr rv1.2.2.2.1 (fun a i ha => hf a i (rG_ne ha rfl) (rG_ne ha rfl) (rG_ne ha rfl) (rG_ne ha rfl) (rG_ne ha rfl))), by rw [show M3 650 = M2 650 from funext (fun i => hf 650 i (nne rfl) (nne rfl) (nne rfl) (nne rfl) (nne rfl))]; exact rv1.2.2.2.2.1, (MC.fr rv1.2.2.2.2.2.1 (fun i => hf 652 i (nne rfl) (nne rfl) (nne rfl) (nne rfl) (nne rfl)) (fun i => hf 653 i (nne rfl) (nne rfl) (nne rfl) (nne rfl) (nne rfl)) (fun i => hf 654 i (nne rfl) (nne rfl) (nne rfl) (nne rfl) (nne rfl)) (fun i => hf 655 i (nne rfl) (nne rfl) (nne rfl) (nne rfl) (nne rfl)) (hk 82 (zne rfl) (zne rfl) (zne rfl) (zne rfl) (zne rfl) (zne rfl) (zne rfl) (zne rfl) (zne rfl) (zne rfl) (zne rfl) (zne rfl))), (AS.fr rv1.2.2.2.2.2.2.1 (fun i => hf 685 i (nne rfl) (nne rfl) (nne rfl) (nne rfl) (nne rfl)) (hk 112 (zne rfl) (zne rfl) (zne rfl) (zne rfl) (zne rfl) (zne rfl) (zne rfl) (zne rfl) (zne rfl) (zne rfl) (zne rfl) (zne rfl))), ((hk 2 (zne rfl) (zne rfl) (zne rfl) (zne rfl) (zne rfl) (zne rfl) (zne rfl) (zne rfl) (zne rfl) (zne rfl) (zne rfl) (zne rfl)).trans rv1.2.2.2.2.2.2.2.1), X7.fr rv1.2.2.2.2.2.2.2.2 (fun i => hf 647 i (nne rfl) (nne rfl) (nne rfl) (nne rfl) (nne rfl))⟩
  have ho := op_turn rd1 rv1.2.2.2.1 rv1.1 hf_M2 w2_0 w3 hf hk
  have rd2 : RDA M3 M3 := ho.1.c (fun a i ha => hf a i (by omega) (by omega) (by omega) (by omega) (by omega))
  have heq : r2 = r3 := ho.2
  refine jr.pop rfl rfl ?_
  refine jr.goto rfl rfl ?_
  exact k _ _ (Int.le_refl _) (by omega) (cv2.le (by omega)) (rv2.le (by omega)) rd2
theorem lop_25 {A : Nat → Option (Nat × (Nat → Int32))} [HA A] {Q : Option Value → jm → Prop} {N : Nat} {xs : Nat → Int32} (hA0 : A 0 = some (N, xs)) (hN : N ≤ 4000) {M : jm} {L L2 S i : Int} (cv : CV M L S) (rv : RV M L2 S) (rd : RDA M M) (hS : 0 ≤ S ∧ S ≤ 900000) (hL : 0 ≤ L ∧ L ≤ 1900000000) (hL2 : 0 ≤ L2 ∧ L2 ≤ 1900000000) (hi : 0 ≤ i ∧ i + 6 ≤ N) (k : ∀ (M' : jm) (S' : Int), S ≤ S' → S' ≤ S + 1000 → CV M' (L + 1000000) S' → RV M' (L2 + 2689623) S' → RDA M' M' → jr A 364 xm_law 1328 [(3, .int (Int32.ofInt (i))), (2, .ref (598)), (1, .ref (0)), (0, .ref (1000000))] [] M' Q) : jr A 364 xm_law 983 [(3, .int (Int32.ofInt (i))), (2, .ref (598)), (1, .ref (0)), (0, .ref (1000000))] [] M Q := by
  have hC_M := cv.1
  have hne := cv.2.2.2.1
  have hz4 := cv.2.2.2.2.1
  have hS8 := cv.2.2.2.2.2
  refine jr.aload_n rfl rfl ?_
  refine jr_v rfl rfl (Or.inl rfl) rfl rfl (nlt rfl) rfl ⟨rfl, Nat.le_of_ble_eq_true rfl, Nat.le_of_ble_eq_true rfl⟩ rfl (jc.deep (c_PacketWall_rules_o cv.1 (FR.rfl _ M) cv.2.2.1 cv.2.2.2.1 (fun r1 M1 hC_M1 hf_M1 z1 w1_0 w1_1 w1_2 => ?_)) (Nat.le_of_ble_eq_true rfl))
  have cv1 : CV M1 L S := ⟨hC_M1, (cv.2.1.fr hf_M1 rfl), w1_0, w1_1, ((hf_M1.g (show kd 421 = 22 from rfl) rfl).trans cv.2.2.2.2.1), ((hf_M1.g (show kd 0 = 35 from rfl) rfl).trans cv.2.2.2.2.2)⟩
  have rv1 : RV M1 L2 S := RV.tr rv (fun a i ha => hf_M1.g (kd_hi ha) rfl)
  have rd1 : RDA M M1 := rd.rr rv.2.2.2.1 rv.1 (fun a i ha => hf_M1.g (kd_hi ha) rfl)
  refine jr.pop rfl rfl ?_
  refine jr.aload_n rfl rfl ?_
  refine jr_v rfl rfl (Or.inl rfl) rfl rfl (nlt rfl) rfl ⟨rfl, Nat.le_of_ble_eq_true rfl, Nat.le_of_ble_eq_true rfl⟩ rfl (jc.deep (r_rules_x rv1.1 rv1.2.1 rv1.2.2.1 rv1.2.2.2.2.2.1 rv1.2.2.2.2.1 (fun r2 M2 hI hH hF z2 hmc h1 hf hk => ?_)) (Nat.le_of_ble_eq_true rfl))
  have cv2 : CV M2 L S := cv1.z (fun a i ha => hf a i (by omega) (by omega) (by omega) (by omega) (by omega) (by omega) (by omega) (by omega) (by omega) (by omega) (by omega) (by omega) (by omega) (by omega) (by omega) (by omega) (by omega) (by omega) (by omega) (by omega))
  have rv2 : RV M2 L2 S := ⟨hI, hH, hF, (RG1.fr rv1.2.2.2.1 (fun a i ha => hf a i (rG_ne ha rfl) (rG_ne ha rfl) (rG_ne ha rfl) (rG_ne ha rfl) (rG_ne ha rfl) (rG_ne ha rfl) (rG_ne ha rfl) (rG_ne ha rfl) (rG_ne ha rfl) (rG_ne ha rfl) (rG_ne ha rfl) (rG_ne ha rfl) (rG_ne ha rfl) (rG_ne ha rfl) (rG_ne ha rfl) (rG_ne ha rfl) (rG_ne ha rfl) (rG_ne ha rfl) (rG_ne ha rfl) (rG_ne ha rfl))), by rw [show M2 650 = M1 650 from funext (fun i => hf 650 i (nne rfl) (nne rfl) (nne rfl) (nne rfl) (nne rfl) (nne rfl) (nne rfl) (nne rfl) (nne rfl) (nne rfl) (nne rfl) (nne rfl) (nne rfl) (nne rfl) (nne rfl) (nne rfl) (nne rfl) (nne rfl) (nne rfl) (nne rfl))]; exact rv1.2.2.2.2.1, hmc, (AS.fr rv1.2.2.2.2.2.2.1 (fun i => hf 685 i (nne rfl) (nne rfl) (nne rfl) (nne rfl) (nne rfl) (nne rfl) (nne rfl) (nne rfl) (nne rfl) (nne rfl) (nne rfl) (nne rfl) (nne rfl) (nne rfl) (nne rfl) (nne rfl) (nne rfl) (nne rfl) (nne rfl) (nne rfl)) (hk 112 (zne rfl) (zne rfl) (zne rfl) (zne rfl) (zne rfl) (zne rfl) (zne rfl) (zne rfl) (zne rfl) (zne rfl) (zne rfl) (zne rfl) (zne rfl) (zne rfl) (zne rfl) (zne rfl) (zne rfl) (zne rfl) (zne rfl) (zne rfl) (zne rfl))), ((hk 2 (zne rfl) (zne rfl) (zne rfl) (zne rfl) (zne rfl) (zne rfl) (zne rfl) (zne rfl) (zne rfl) (zne rfl) (zne rfl) (zne rfl) (zne rfl) (zne rfl) (zne rfl) (zne rfl) (zne rfl) (zne rfl) (zne rfl) (zne rfl) (zne rfl)).trans rv1.2.2.2.2.2.2.2.1), X7.fr rv1.2.2.2.2.2.2.2.2 (fun i => hf 647 i (nne rfl) (nne rfl) (nne rfl) (nne rfl) (nne rfl) (nne rfl) (nne rfl) (nne rfl) (nne rfl) (nne rfl) (nne rfl) (nne rfl) (nne rfl) (nne rfl) (nne rfl) (nne rfl) (nne rfl) (nne rfl) (nne rfl) (nne rfl))⟩
  have rd2 : RDA M2 M2 := (oq_rules rd1 rv1.2.2.2.1 rv1.1 hf_M1 w1_2 h1 hf hk).c (fun a i ha => hf a i (by omega) (by omega) (by omega) (by omega) (by omega) (by omega) (by omega) (by omega) (by omega) (by omega) (by omega) (by omega) (by omega) (by omega) (by omega) (by omega) (by omega) (by omega) (by omega) (by omega))
  refine jr.pop rfl rfl ?_
  refine jr.goto rfl rfl ?_
  exact k _ _ (Int.le_refl _) (by omega) (cv2.le (by omega)) (rv2.le (by omega)) rd2
theorem lop_26 {A : Nat → Option (Nat × (Nat → Int32))} [HA A] {Q : Option Value → jm → Prop} {N : Nat} {xs : Nat → Int32} (hA0 : A 0 = some (N, xs)) (hN : N ≤ 4000) {M : jm} {L L2 S i : Int} (cv : CV M L S) (rv : RV M L2 S) (rd : RDA M M) (hS : 0 ≤ S ∧ S ≤ 900000) (hL : 0 ≤ L ∧ L ≤ 1900000000) (hL2 : 0 ≤ L2 ∧ L2 ≤ 1900000000) (hi : 0 ≤ i ∧ i + 6 ≤ N) (k : ∀ (M' : jm) (S' : Int), S ≤ S' → S' ≤ S + 1000 → CV M' (L + 1000000) S' → RV M' (L2 + 2689623) S' → RDA M' M' → jr A 364 xm_law 1328 [(3, .int (Int32.ofInt (i))), (2, .ref (598)), (1, .ref (0)), (0, .ref (1000000))] [] M' Q) : jr A 364 xm_law 996 [(3, .int (Int32.ofInt (i))), (2, .ref (598)), (1, .ref (0)), (0, .ref (1000000))] [] M Q := by
  have hC_M := cv.1
  have hne := cv.2.2.2.1
  have hz4 := cv.2.2.2.2.1
  have hS8 := cv.2.2.2.2.2
  refine jr.aload_n rfl rfl ?_
  refine jr_v rfl rfl (Or.inl rfl) rfl rfl (nlt rfl) rfl ⟨rfl, Nat.le_of_ble_eq_true rfl, Nat.le_of_ble_eq_true rfl⟩ rfl (jc.deep (c_PacketWall_wrong cv.1 (fun r1 z1  => ?_)) (Nat.le_of_ble_eq_true rfl))
  refine jr.pop rfl rfl ?_
  refine jr.aload_n rfl rfl ?_
  refine jr_v rfl rfl (Or.inl rfl) rfl rfl (nlt rfl) rfl ⟨rfl, Nat.le_of_ble_eq_true rfl, Nat.le_of_ble_eq_true rfl⟩ rfl (jc.deep (r_wrong_x rv.1 rv.2.1 rv.2.2.1 (fun r2 M2 hI hH hF z2 hf => ?_)) (Nat.le_of_ble_eq_true rfl))
  have cv2 : CV M2 L S := cv.z (fun a i ha => hf a i (by omega))
  have rv2 : RV M2 L2 S := ⟨hI, hH, hF, (RG1.fr rv.2.2.2.1 (fun a i ha => hf a i (rG_ne ha rfl))), by rw [show M2 650 = M 650 from funext (fun i => hf 650 i (nne rfl))]; exact rv.2.2.2.2.1, (MC.fr rv.2.2.2.2.2.1 (fun i => hf 652 i (nne rfl)) (fun i => hf 653 i (nne rfl)) (fun i => hf 654 i (nne rfl)) (fun i => hf 655 i (nne rfl)) (hf 598 82 (nne rfl))), (AS.fr rv.2.2.2.2.2.2.1 (fun i => hf 685 i (nne rfl)) (hf 598 112 (nne rfl))), ((hf 598 2 (nne rfl)).trans rv.2.2.2.2.2.2.2.1), X7.fr rv.2.2.2.2.2.2.2.2 (fun i => hf 647 i (nne rfl))⟩
  have rd2 : RDA M2 M2 := (oq_wrong rd rv.2.2.2.1 rv.1  hf ).c (fun a i ha => hf a i (by omega))
  refine jr.pop rfl rfl ?_
  refine jr.goto rfl rfl ?_
  exact k _ _ (Int.le_refl _) (by omega) (cv2.le (by omega)) (rv2.le (by omega)) rd2
theorem lop_27 {A : Nat → Option (Nat × (Nat → Int32))} [HA A] {Q : Option Value → jm → Prop} {N : Nat} {xs : Nat → Int32} (hA0 : A 0 = some (N, xs)) (hN : N ≤ 4000) {M : jm} {L L2 S i : Int} (cv : CV M L S) (rv : RV M L2 S) (rd : RDA M M) (hS : 0 ≤ S ∧ S ≤ 900000) (hL : 0 ≤ L ∧ L ≤ 1900000000) (hL2 : 0 ≤ L2 ∧ L2 ≤ 1900000000) (hi : 0 ≤ i ∧ i + 6 ≤ N) (k : ∀ (M' : jm) (S' : Int), S ≤ S' → S' ≤ S + 1000 → CV M' (L + 1000000) S' → RV M' (L2 + 2689623) S' → RDA M' M' → jr A 364 xm_law 1328 [(3, .int (Int32.ofInt (i))), (2, .ref (598)), (1, .ref (0)), (0, .ref (1000000))] [] M' Q) : jr A 364 xm_law 1009 [(3, .int (Int32.ofInt (i))), (2, .ref (598)), (1, .ref (0)), (0, .ref (1000000))] [] M Q := by
  have hC_M := cv.1
  have hne := cv.2.2.2.1
  have hz4 := cv.2.2.2.2.1
  have hS8 := cv.2.2.2.2.2
  refine jr.aload_n rfl rfl ?_
  refine jr.aload_n rfl rfl ?_
  refine jr.iload_n rfl rfl ?_
  refine jr.iconst rfl ?_
  refine jr.iadd rfl ?_
  obtain ⟨v1, e1⟩ : ∃ z_, (xs (i + 1).toNat).toInt = z_ := ⟨_, rfl⟩
  have b1 : -2147483648 ≤ v1 ∧ v1 ≤ 2147483647 := by rw [← e1]; exact jb_any _
  refine jr.ials (i := (i + 1)) v1 rfl (by decide) hA0 (by omega) (by omega) (by omega) (by rw [← e1]; exact (Int32.ofInt_toInt _).symm) ?_
  refine jr_v rfl rfl (Or.inl rfl) rfl rfl (nlt rfl) rfl ⟨rfl, Nat.le_of_ble_eq_true rfl, Nat.le_of_ble_eq_true rfl⟩ rfl (jc.deep (c_PacketWall_verdict_o cv.1 (FR.rfl _ M) (by omega) (by omega) cv.2.1 (by omega) cv.2.2.1 rfl (fun r2 M2 hC_M2 hf_M2 z2 w2_0 w2_1 w2_2 => ?_)) (Nat.le_of_ble_eq_true rfl))
  have cv1 : CV M2 (L + 1000000) S := ⟨hC_M2, w2_0, (cv.2.2.1.fr cv.1 hf_M2 rfl), (by rw [hf_M2.g (show kd 413 = 44 from rfl) rfl, hf_M2.g (show kd 421 = 22 from rfl) rfl]; exact cv.2.2.2.1), (by have hq := w2_1; omega), ((hf_M2.g (show kd 0 = 35 from rfl) rfl).trans cv.2.2.2.2.2)⟩
  have rv1 : RV M2 L2 S := RV.tr rv (fun a i ha => hf_M2.g (kd_hi ha) rfl)
  have rd1 : RDA M M2 := rd.rr rv.2.2.2.1 rv.1 (fun a i ha => hf_M2.g (kd_hi ha) rfl)
  refine jr.pop rfl rfl ?_
  refine jr.aload_n rfl rfl ?_
  refine jr.aload_n rfl rfl ?_
  refine jr.iload_n rfl rfl ?_
  refine jr.iconst rfl ?_
  refine jr.iadd rfl ?_
  refine jr.ials (i := (i + 1)) v1 rfl (by decide) hA0 (by omega) (by omega) (by omega) (by rw [← e1]; exact (Int32.ofInt_toInt _).symm) ?_
  refine jr_v rfl rfl (Or.inl rfl) rfl rfl (nlt rfl) rfl ⟨rfl, Nat.le_of_ble_eq_true rfl, Nat.le_of_ble_eq_true rfl⟩ rfl (jc.deep (r_verdict rv1.1 rv1.2.1 rv1.2.2.1 (by omega) rv1.2.2.2.2.2.1 rv1.2.2.2.2.2.2.1 (by omega) (fun r3 M3 hI hH hF z3 has hf hk => ?_)) (Nat.le_of_ble_eq_true rfl))
  have cv2 : CV M3 (L + 1000000) S := cv1.z (fun a i ha => hf a i (by omega) (by omega) (by omega) (by omega) (by omega) (by omega) (by omega) (by omega) (by omega) (by omega) (by omega) (by omega) (by omega) (by omega) (by omega) (by omega) (by omega) (by omega) (by omega) (by omega) (by omega) (by omega) (by omega) (by omega))
  have rv2 : RV M3 (L2 + 2689623) S := ⟨hI, hH, hF, (RG1.fr rv1.2.2.2.1 (fun a i ha => hf a i (rG_ne ha rfl) (rG_ne ha rfl) (rG_ne ha rfl) (rG_ne ha rfl) (rG_ne ha rfl) (rG_ne ha rfl) (rG_ne ha rfl) (rG_ne ha rfl) (rG_ne ha rfl) (rG_ne ha rfl) (rG_ne ha rfl) (rG_ne ha rfl) (rG_ne ha rfl) (rG_ne ha rfl) (rG_ne ha rfl) (rG_ne ha rfl) (rG_ne ha rfl) (rG_ne ha rfl) (rG_ne ha rfl) (rG_ne ha rfl) (rG_ne ha rfl) (rG_ne ha rfl) (rG_ne ha rfl) (rG_ne ha rfl))), by rw [show M3 650 = M2 650 from funext (fun i => hf 650 i (nne rfl) (nne rfl) (nne rfl) (nne rfl) (nne rfl) (nne rfl) (nne rfl) (nne rfl) (nne rfl) (nne rfl) (nne rfl) (nne rfl) (nne rfl) (nne rfl) (nne rfl) (nne rfl) (nne rfl) (nne rfl) (nne rfl) (nne rfl) (nne rfl) (nne rfl) (nne rfl) (nne rfl))]; exact rv1.2.2.2.2.1, (MC.fr rv1.2.2.2.2.2.1 (fun i => hf 652 i (nne rfl) (nne rfl) (nne rfl) (nne rfl) (nne rfl) (nne rfl) (nne rfl) (nne rfl) (nne rfl) (nne rfl) (nne rfl) (nne rfl) (nne rfl) (nne rfl) (nne rfl) (nne rfl) (nne rfl) (nne rfl) (nne rfl) (nne rfl) (nne rfl) (nne rfl) (nne rfl) (nne rfl)) (fun i => hf 653 i (nne rfl) (nne rfl) (nne rfl) (nne rfl) (nne rfl) (nne rfl) (nne rfl) (nne rfl) (nne rfl) (nne rfl) (nne rfl) (nne rfl) (nne rfl) (nne rfl) (nne rfl) (nne rfl) (nne rfl) (nne rfl) (nne rfl) (nne rfl) (nne rfl) (nne rfl) (nne rfl) (nne rfl)) (fun i => hf 654 i (nne rfl) (nne rfl) (nne rfl) (nne rfl) (nne rfl) (nne rfl) (nne rfl) (nne rfl) (nne rfl) (nne rfl) (nne rfl) (nne rfl) (nne rfl) (nne rfl) (nne rfl) (nne rfl) (nne rfl) (nne rfl) (nne rfl) (nne rfl) (nne rfl) (nne rfl) (nne rfl) (nne rfl)) (fun i => hf 655 i (nne rfl) (nne rfl) (nne rfl) (nne rfl) (nne rfl) (nne rfl) (nne rfl) (nne rfl) (nne rfl) (nne rfl) (nne rfl) (nne rfl) (nne rfl) (nne rfl) (nne rfl) (nne rfl) (nne rfl) (nne rfl) (nne rfl) (nne rfl) (nne rfl) (nne rfl) (nne rfl) (nne rfl)) (hk 82 (zne rfl) (zne rfl) (zne rfl) (zne rfl) (zne rfl) (zne rfl) (zne rfl) (zne rfl) (zne rfl) (zne rfl) (zne rfl) (zne rfl) (zne rfl) (zne rfl) (zne rfl) (zne rfl) (zne rfl) (zne rfl) (zne rfl) (zne rfl) (zne rfl) (zne rfl) (zne rfl) (zne rfl) (zne rfl) (zne rfl) (zne rfl) (zne rfl) (zne rfl) (zne rfl) (zne rfl) (zne rfl))), has, ((hk 2 (zne rfl) (zne rfl) (zne rfl) (zne rfl) (zne rfl) (zne rfl) (zne rfl) (zne rfl) (zne rfl) (zne rfl) (zne rfl) (zne rfl) (zne rfl) (zne rfl) (zne rfl) (zne rfl) (zne rfl) (zne rfl) (zne rfl) (zne rfl) (zne rfl) (zne rfl) (zne rfl) (zne rfl) (zne rfl) (zne rfl) (zne rfl) (zne rfl) (zne rfl) (zne rfl) (zne rfl) (zne rfl)).trans rv1.2.2.2.2.2.2.2.1), X7.fr rv1.2.2.2.2.2.2.2.2 (fun i => hf 647 i (nne rfl) (nne rfl) (nne rfl) (nne rfl) (nne rfl) (nne rfl) (nne rfl) (nne rfl) (nne rfl) (nne rfl) (nne rfl) (nne rfl) (nne rfl) (nne rfl) (nne rfl) (nne rfl) (nne rfl) (nne rfl) (nne rfl) (nne rfl) (nne rfl) (nne rfl) (nne rfl) (nne rfl))⟩
  have rd2 : RDA M3 M3 := (oq_verdict rd1 rv1.2.2.2.1 rv1.1 hf_M2 w2_2 hf hk).c (fun a i ha => hf a i (by omega) (by omega) (by omega) (by omega) (by omega) (by omega) (by omega) (by omega) (by omega) (by omega) (by omega) (by omega) (by omega) (by omega) (by omega) (by omega) (by omega) (by omega) (by omega) (by omega) (by omega) (by omega) (by omega) (by omega))
  refine jr.pop rfl rfl ?_
  refine jr.goto rfl rfl ?_
  exact k _ _ (Int.le_refl _) (by omega) (cv2.le (by omega)) (rv2.le (by omega)) rd2
theorem lop_28 {A : Nat → Option (Nat × (Nat → Int32))} [HA A] {Q : Option Value → jm → Prop} {N : Nat} {xs : Nat → Int32} (hA0 : A 0 = some (N, xs)) (hN : N ≤ 4000) {M : jm} {L L2 S i : Int} (cv : CV M L S) (rv : RV M L2 S) (rd : RDA M M) (hS : 0 ≤ S ∧ S ≤ 900000) (hL : 0 ≤ L ∧ L ≤ 1900000000) (hL2 : 0 ≤ L2 ∧ L2 ≤ 1900000000) (hi : 0 ≤ i ∧ i + 6 ≤ N) (k : ∀ (M' : jm) (S' : Int), S ≤ S' → S' ≤ S + 1000 → CV M' (L + 1000000) S' → RV M' (L2 + 2689623) S' → RDA M' M' → jr A 364 xm_law 1328 [(3, .int (Int32.ofInt (i))), (2, .ref (598)), (1, .ref (0)), (0, .ref (1000000))] [] M' Q) : jr A 364 xm_law 1032 [(3, .int (Int32.ofInt (i))), (2, .ref (598)), (1, .ref (0)), (0, .ref (1000000))] [] M Q := by
  have hC_M := cv.1
  have hne := cv.2.2.2.1
  have hz4 := cv.2.2.2.2.1
  have hS8 := cv.2.2.2.2.2
  refine jr.aload_n rfl rfl ?_
  refine jr.aload_n rfl rfl ?_
  refine jr.iload_n rfl rfl ?_
  refine jr.iconst rfl ?_
  refine jr.iadd rfl ?_
  obtain ⟨v1, e1⟩ : ∃ z_, (xs (i + 1).toNat).toInt = z_ := ⟨_, rfl⟩
  have b1 : -2147483648 ≤ v1 ∧ v1 ≤ 2147483647 := by rw [← e1]; exact jb_any _
  refine jr.ials (i := (i + 1)) v1 rfl (by decide) hA0 (by omega) (by omega) (by omega) (by rw [← e1]; exact (Int32.ofInt_toInt _).symm) ?_
  refine jr_v rfl rfl (Or.inl rfl) rfl rfl (nlt rfl) rfl ⟨rfl, Nat.le_of_ble_eq_true rfl, Nat.le_of_ble_eq_true rfl⟩ rfl (jc.deep (c_PacketWall_why cv.1 (by omega) (fun r2 z2  => ?_)) (Nat.le_of_ble_eq_true rfl))
  refine jr.pop rfl rfl ?_
  refine jr.aload_n rfl rfl ?_
  refine jr.aload_n rfl rfl ?_
  refine jr.iload_n rfl rfl ?_
  refine jr.iconst rfl ?_
  refine jr.iadd rfl ?_
  refine jr.ials (i := (i + 1)) v1 rfl (by decide) hA0 (by omega) (by omega) (by omega) (by rw [← e1]; exact (Int32.ofInt_toInt _).symm) ?_
  refine jr_v rfl rfl (Or.inl rfl) rfl rfl (nlt rfl) rfl ⟨rfl, Nat.le_of_ble_eq_true rfl, Nat.le_of_ble_eq_true rfl⟩ rfl (jc.deep (r_why_x rv.1 rv.2.1 rv.2.2.1 (by omega) (fun r3 M3 hI hH hF z3 hf => ?_)) (Nat.le_of_ble_eq_true rfl))
  have cv2 : CV M3 L S := cv.z (fun a i ha => hf a i (by omega))
  have rv2 : RV M3 L2 S := ⟨hI, hH, hF, (RG1.fr rv.2.2.2.1 (fun a i ha => hf a i (rG_ne ha rfl))), by rw [show M3 650 = M 650 from funext (fun i => hf 650 i (nne rfl))]; exact rv.2.2.2.2.1, (MC.fr rv.2.2.2.2.2.1 (fun i => hf 652 i (nne rfl)) (fun i => hf 653 i (nne rfl)) (fun i => hf 654 i (nne rfl)) (fun i => hf 655 i (nne rfl)) (hf 598 82 (nne rfl))), (AS.fr rv.2.2.2.2.2.2.1 (fun i => hf 685 i (nne rfl)) (hf 598 112 (nne rfl))), ((hf 598 2 (nne rfl)).trans rv.2.2.2.2.2.2.2.1), X7.fr rv.2.2.2.2.2.2.2.2 (fun i => hf 647 i (nne rfl))⟩
  have rd2 : RDA M3 M3 := (oq_why rd rv.2.2.2.1 rv.1  hf ).c (fun a i ha => hf a i (by omega))
  refine jr.pop rfl rfl ?_
  refine jr.goto rfl rfl ?_
  exact k _ _ (Int.le_refl _) (by omega) (cv2.le (by omega)) (rv2.le (by omega)) rd2
theorem lop_29 {A : Nat → Option (Nat × (Nat → Int32))} [HA A] {Q : Option Value → jm → Prop} {N : Nat} {xs : Nat → Int32} (hA0 : A 0 = some (N, xs)) (hN : N ≤ 4000) {M : jm} {L L2 S i : Int} (cv : CV M L S) (rv : RV M L2 S) (rd : RDA M M) (hS : 0 ≤ S ∧ S ≤ 900000) (hL : 0 ≤ L ∧ L ≤ 1900000000) (hL2 : 0 ≤ L2 ∧ L2 ≤ 1900000000) (hi : 0 ≤ i ∧ i + 6 ≤ N) (k : ∀ (M' : jm) (S' : Int), S ≤ S' → S' ≤ S + 1000 → CV M' (L + 1000000) S' → RV M' (L2 + 2689623) S' → RDA M' M' → jr A 364 xm_law 1328 [(3, .int (Int32.ofInt (i))), (2, .ref (598)), (1, .ref (0)), (0, .ref (1000000))] [] M' Q) : jr A 364 xm_law 1055 [(3, .int (Int32.ofInt (i))), (2, .ref (598)), (1, .ref (0)), (0, .ref (1000000))] [] M Q := by
  have hC_M := cv.1
  have hne := cv.2.2.2.1
  have hz4 := cv.2.2.2.2.1
  have hS8 := cv.2.2.2.2.2
  refine jr.aload_n rfl rfl ?_
  refine jr.aload_n rfl rfl ?_
  refine jr.iload_n rfl rfl ?_
  refine jr.iconst rfl ?_
  refine jr.iadd rfl ?_
  obtain ⟨v1, e1⟩ : ∃ z_, (xs (i + 1).toNat).toInt = z_ := ⟨_, rfl⟩
  have b1 : -2147483648 ≤ v1 ∧ v1 ≤ 2147483647 := by rw [← e1]; exact jb_any _
  refine jr.ials (i := (i + 1)) v1 rfl (by decide) hA0 (by omega) (by omega) (by omega) (by rw [← e1]; exact (Int32.ofInt_toInt _).symm) ?_
  refine jr_v rfl rfl (Or.inl rfl) rfl rfl (nlt rfl) rfl ⟨rfl, Nat.le_of_ble_eq_true rfl, Nat.le_of_ble_eq_true rfl⟩ rfl (jc.deep (c_PacketWall_counter cv.1 (by omega) (fun r2 z2  => ?_)) (Nat.le_of_ble_eq_true rfl))
  refine jr.pop2 rfl ?_
  refine jr.aload_n rfl rfl ?_
  refine jr.aload_n rfl rfl ?_
  refine jr.iload_n rfl rfl ?_
  refine jr.iconst rfl ?_
  refine jr.iadd rfl ?_
  refine jr.ials (i := (i + 1)) v1 rfl (by decide) hA0 (by omega) (by omega) (by omega) (by rw [← e1]; exact (Int32.ofInt_toInt _).symm) ?_
  refine jr_v rfl rfl (Or.inl rfl) rfl rfl (nlt rfl) rfl ⟨rfl, Nat.le_of_ble_eq_true rfl, Nat.le_of_ble_eq_true rfl⟩ rfl (jc.deep (r_counter_x rv.1 rv.2.1 rv.2.2.1 (by omega) (fun r3 M3 hI hH hF z3 hf => ?_)) (Nat.le_of_ble_eq_true rfl))
  have cv2 : CV M3 L S := cv.z (fun a i ha => hf a i (by omega))
  have rv2 : RV M3 L2 S := ⟨hI, hH, hF, (RG1.fr rv.2.2.2.1 (fun a i ha => hf a i (rG_ne ha rfl))), by rw [show M3 650 = M 650 from funext (fun i => hf 650 i (nne rfl))]; exact rv.2.2.2.2.1, (MC.fr rv.2.2.2.2.2.1 (fun i => hf 652 i (nne rfl)) (fun i => hf 653 i (nne rfl)) (fun i => hf 654 i (nne rfl)) (fun i => hf 655 i (nne rfl)) (hf 598 82 (nne rfl))), (AS.fr rv.2.2.2.2.2.2.1 (fun i => hf 685 i (nne rfl)) (hf 598 112 (nne rfl))), ((hf 598 2 (nne rfl)).trans rv.2.2.2.2.2.2.2.1), X7.fr rv.2.2.2.2.2.2.2.2 (fun i => hf 647 i (nne rfl))⟩
  have rd2 : RDA M3 M3 := (oq_counter rd rv.2.2.2.1 rv.1  hf ).c (fun a i ha => hf a i (by omega))
  refine jr.pop2 rfl ?_
  refine jr.goto rfl rfl ?_
  exact k _ _ (Int.le_refl _) (by omega) (cv2.le (by omega)) (rv2.le (by omega)) rd2
end
