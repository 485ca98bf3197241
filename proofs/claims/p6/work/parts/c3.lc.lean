/-! ===== the calls of the law, 2 ===== -/
theorem lop_20 {A : Nat → Option (Nat × (Nat → Int32))} [HA A] {Q : Option Value → jm → Prop} {N : Nat} {xs : Nat → Int32} (hA0 : A 0 = some (N, xs)) (hN : N ≤ 4000) {M : jm} {L L2 S i : Int} (cv : CV M L S) (rv : RV M L2 S) (rd : RDA M M) (hS : 0 ≤ S ∧ S ≤ 900000) (hL : 0 ≤ L ∧ L ≤ 1900000000) (hL2 : 0 ≤ L2 ∧ L2 ≤ 1900000000) (hi : 0 ≤ i ∧ i + 6 ≤ N) (k : ∀ (M' : jm) (S' : Int), S ≤ S' → S' ≤ S + 1000 → CV M' (L + 1000000) S' → RV M' (L2 + 2689623) S' → RDA M' M' → jr A 364 xm_law 1328 [(3, .int (Int32.ofInt (i))), (2, .ref (598)), (1, .ref (0)), (0, .ref (1000000))] [] M' Q) : jr A 364 xm_law 818 [(3, .int (Int32.ofInt (i))), (2, .ref (598)), (1, .ref (0)), (0, .ref (1000000))] [] M Q := by
  have hC_M := cv.1
  have hne := cv.2.2.2.1
  have hz4 := cv.2.2.2.2.1
  have hS8 := cv.2.2.2.2.2
  refine jr.aload_n rfl rfl ?_
  refine jr.aload_n rfl rfl ?_
  refine jr.iload_n rfl rfl ?_
  refine jr.iconst rfl ?_
  refine jr.iadd rfl ?_
  obtain ⟨v1, e1⟩ : ∃ z_, (xs (i + 1).toNat).toInt = z_ := ⟨_, rfl⟩
  have b1 : -2147483648 ≤ v1 ∧ v1 ≤ 2147483647 := by rw [← e1]; exact jb_any _
  refine jr.ials (i := (i + 1)) v1 rfl (by decide) hA0 (by omega) (by omega) (by omega) (by rw [← e1]; exact (Int32.ofInt_toInt _).symm) ?_
  refine jr.aload_n rfl rfl ?_
  refine jr.iload_n rfl rfl ?_
  refine jr.iconst rfl ?_
  refine jr.iadd rfl ?_
  obtain ⟨v2, e2⟩ : ∃ z_, (xs (i + 2).toNat).toInt = z_ := ⟨_, rfl⟩
  have b2 : -2147483648 ≤ v2 ∧ v2 ≤ 2147483647 := by rw [← e2]; exact jb_any _
  refine jr.ials (i := (i + 2)) v2 rfl (by decide) hA0 (by omega) (by omega) (by omega) (by rw [← e2]; exact (Int32.ofInt_toInt _).symm) ?_
  refine jr_v rfl rfl (Or.inl rfl) rfl rfl (by decide) rfl ⟨rfl, Nat.le_of_ble_eq_true rfl, Nat.le_of_ble_eq_true rfl⟩ rfl (jc.deep (c_PacketWall_flowed_x cv.1 (by omega) (by omega) rfl (fun r3 z3 w3_0 => ?_)) (by decide))
  refine jr.pop2 rfl ?_
  refine jr.aload_n rfl rfl ?_
  refine jr.aload_n rfl rfl ?_
  refine jr.iload_n rfl rfl ?_
  refine jr.iconst rfl ?_
  refine jr.iadd rfl ?_
  refine jr.ials (i := (i + 1)) v1 rfl (by decide) hA0 (by omega) (by omega) (by omega) (by rw [← e1]; exact (Int32.ofInt_toInt _).symm) ?_
  refine jr.aload_n rfl rfl ?_
  refine jr.iload_n rfl rfl ?_
  refine jr.iconst rfl ?_
  refine jr.iadd rfl ?_
  refine jr.ials (i := (i + 2)) v2 rfl (by decide) hA0 (by omega) (by omega) (by omega) (by rw [← e2]; exact (Int32.ofInt_toInt _).symm) ?_
  refine jr_v rfl rfl (Or.inl rfl) rfl rfl (by decide) rfl ⟨rfl, Nat.le_of_ble_eq_true rfl, Nat.le_of_ble_eq_true rfl⟩ rfl (jc.deep (r_flowed_x rv.1 rv.2.1 rv.2.2.1 (by omega) (by omega) (fun r4 M4 hI hH hF z4 w4 hM hf hk => ?_)) (by decide))
  have cv2 : CV M4 L S := by rw [hM]; exact cv
  have rv2 : RV M4 L2 S := by rw [hM]; exact rv
  have heq : r3 = r4 := op_flowed rd w3_0 w4
  have rd2 : RDA M4 M4 := by rw [hM]; exact rd
  refine jr.pop2 rfl ?_
  refine jr.goto rfl rfl ?_
  exact k _ _ (Int.le_refl _) (by omega) (cv2.le (by omega)) (rv2.le (by omega)) rd2
theorem lop_21 {A : Nat → Option (Nat × (Nat → Int32))} [HA A] {Q : Option Value → jm → Prop} {N : Nat} {xs : Nat → Int32} (hA0 : A 0 = some (N, xs)) (hN : N ≤ 4000) {M : jm} {L L2 S i : Int} (cv : CV M L S) (rv : RV M L2 S) (rd : RDA M M) (hS : 0 ≤ S ∧ S ≤ 900000) (hL : 0 ≤ L ∧ L ≤ 1900000000) (hL2 : 0 ≤ L2 ∧ L2 ≤ 1900000000) (hi : 0 ≤ i ∧ i + 6 ≤ N) (k : ∀ (M' : jm) (S' : Int), S ≤ S' → S' ≤ S + 1000 → CV M' (L + 1000000) S' → RV M' (L2 + 2689623) S' → RDA M' M' → jr A 364 xm_law 1328 [(3, .int (Int32.ofInt (i))), (2, .ref (598)), (1, .ref (0)), (0, .ref (1000000))] [] M' Q) : jr A 364 xm_law 851 [(3, .int (Int32.ofInt (i))), (2, .ref (598)), (1, .ref (0)), (0, .ref (1000000))] [] M Q := by
  have hC_M := cv.1
  have hne := cv.2.2.2.1
  have hz4 := cv.2.2.2.2.1
  have hS8 := cv.2.2.2.2.2
  refine jr.aload_n rfl rfl ?_
  refine jr.aload_n rfl rfl ?_
  refine jr.iload_n rfl rfl ?_
  refine jr.iconst rfl ?_
  refine jr.iadd rfl ?_
  obtain ⟨v1, e1⟩ : ∃ z_, (xs (i + 1).toNat).toInt = z_ := ⟨_, rfl⟩
  have b1 : -2147483648 ≤ v1 ∧ v1 ≤ 2147483647 := by rw [← e1]; exact jb_any _
  refine jr.ials (i := (i + 1)) v1 rfl (by decide) hA0 (by omega) (by omega) (by omega) (by rw [← e1]; exact (Int32.ofInt_toInt _).symm) ?_
  refine jr_v rfl rfl (Or.inl rfl) rfl rfl (by decide) rfl ⟨rfl, Nat.le_of_ble_eq_true rfl, Nat.le_of_ble_eq_true rfl⟩ rfl (jc.deep (c_PacketWall_close_x cv.1 (FR.rfl _ M) (by omega) rfl rfl (fun r2 M2 hC_M2 hf_M2 z2 w2_0 => ?_)) (by decide))
  have cv1 : CV M2 L S := ⟨hC_M2, (cv.2.1.fr hf_M2 rfl), (cv.2.2.1.fr cv.1 hf_M2 rfl), (by rw [hf_M2.g (show kd 413 = 44 from rfl) rfl, hf_M2.g (show kd 421 = 22 from rfl) rfl]; exact cv.2.2.2.1), ((hf_M2.g (show kd 421 = 22 from rfl) rfl).trans cv.2.2.2.2.1), ((hf_M2.g (show kd 0 = 35 from rfl) rfl).trans cv.2.2.2.2.2)⟩
  have rv1 : RV M2 L2 S := RV.tr rv (fun a i ha => hf_M2.g (kd_hi ha) rfl)
  have rd1 : RDA M M2 := rd.rr rv.2.2.2.1 rv.1 (fun a i ha => hf_M2.g (kd_hi ha) rfl)
  refine jr.pop rfl rfl ?_
  refine jr.aload_n rfl rfl ?_
  refine jr.aload_n rfl rfl ?_
  refine jr.iload_n rfl rfl ?_
  refine jr.iconst rfl ?_
  refine jr.iadd rfl ?_
  refine jr.ials (i := (i + 1)) v1 rfl (by decide) hA0 (by omega) (by omega) (by omega) (by rw [← e1]; exact (Int32.ofInt_toInt _).symm) ?_
  refine jr_v rfl rfl (Or.inl rfl) rfl rfl (by decide) rfl ⟨rfl, Nat.le_of_ble_eq_true rfl, Nat.le_of_ble_eq_true rfl⟩ rfl (jc.deep (r_close_x rv1.1 rv1.2.1 rv1.2.2.1 (by omega) (fun r3 M3 hI hH hF z3 w3 hf => ?_)) (by decide))
  have cv2 : CV M3 L S := cv1.z (fun a i ha => hf a i (by omega))
  have rv2 : RV M3 L2 S := ⟨hI, hH, hF, (RG1.fr rv1.2.2.2.1 (fun a i ha => hf a i (rG_ne ha rfl))), by rw [show M3 650 = M2 650 from funext (fun i => hf 650 i (by decide))]; exact rv1.2.2.2.2.1, (MC.fr rv1.2.2.2.2.2.1 (fun i => hf 652 i (by decide)) (fun i => hf 653 i (by decide)) (fun i => hf 654 i (by decide)) (fun i => hf 655 i (by decide)) (hf 598 82 (by decide))), (AS.fr rv1.2.2.2.2.2.2.1 (fun i => hf 685 i (by decide)) (hf 598 112 (by decide))), ((hf 598 2 (by decide)).trans rv1.2.2.2.2.2.2.2.1), X7.fr rv1.2.2.2.2.2.2.2.2 (fun i => hf 647 i (by decide))⟩
  have ho := op_close rd1 rv1.2.2.2.1 rv1.1 hf_M2 w2_0 w3 hf
  have rd2 : RDA M3 M3 := ho.1.c (fun a i ha => hf a i (by omega))
  have heq : r2 = r3 := ho.2
  refine jr.pop rfl rfl ?_
  refine jr.goto rfl rfl ?_
  exact k _ _ (Int.le_refl _) (by omega) (cv2.le (by omega)) (rv2.le (by omega)) rd2
theorem lop_22 {A : Nat → Option (Nat × (Nat → Int32))} [HA A] {Q : Option Value → jm → Prop} {N : Nat} {xs : Nat → Int32} (hA0 : A 0 = some (N, xs)) (hN : N ≤ 4000) {M : jm} {L L2 S i : Int} (cv : CV M L S) (rv : RV M L2 S) (rd : RDA M M) (hS : 0 ≤ S ∧ S ≤ 900000) (hL : 0 ≤ L ∧ L ≤ 1900000000) (hL2 : 0 ≤ L2 ∧ L2 ≤ 1900000000) (hi : 0 ≤ i ∧ i + 6 ≤ N) (k : ∀ (M' : jm) (S' : Int), S ≤ S' → S' ≤ S + 1000 → CV M' (L + 1000000) S' → RV M' (L2 + 2689623) S' → RDA M' M' → jr A 364 xm_law 1328 [(3, .int (Int32.ofInt (i))), (2, .ref (598)), (1, .ref (0)), (0, .ref (1000000))] [] M' Q) : jr A 364 xm_law 874 [(3, .int (Int32.ofInt (i))), (2, .ref (598)), (1, .ref (0)), (0, .ref (1000000))] [] M Q := by
  have hC_M := cv.1
  have hne := cv.2.2.2.1
  have hz4 := cv.2.2.2.2.1
  have hS8 := cv.2.2.2.2.2
  refine jr.aload_n rfl rfl ?_
  refine jr.aload_n rfl rfl ?_
  refine jr.iload_n rfl rfl ?_
  refine jr.iconst rfl ?_
  refine jr.iadd rfl ?_
  obtain ⟨v1, e1⟩ : ∃ z_, (xs (i + 1).toNat).toInt = z_ := ⟨_, rfl⟩
  have b1 : -2147483648 ≤ v1 ∧ v1 ≤ 2147483647 := by rw [← e1]; exact jb_any _
  refine jr.ials (i := (i + 1)) v1 rfl (by decide) hA0 (by omega) (by omega) (by omega) (by rw [← e1]; exact (Int32.ofInt_toInt _).symm) ?_
  refine jr.aload_n rfl rfl ?_
  refine jr.iload_n rfl rfl ?_
  refine jr.iconst rfl ?_
  refine jr.iadd rfl ?_
  obtain ⟨v2, e2⟩ : ∃ z_, (xs (i + 2).toNat).toInt = z_ := ⟨_, rfl⟩
  have b2 : -2147483648 ≤ v2 ∧ v2 ≤ 2147483647 := by rw [← e2]; exact jb_any _
  refine jr.ials (i := (i + 2)) v2 rfl (by decide) hA0 (by omega) (by omega) (by omega) (by rw [← e2]; exact (Int32.ofInt_toInt _).symm) ?_
  refine jr.aload_n rfl rfl ?_
  refine jr.iload_n rfl rfl ?_
  refine jr.iconst rfl ?_
  refine jr.iadd rfl ?_
  obtain ⟨v3, e3⟩ : ∃ z_, (xs (i + 3).toNat).toInt = z_ := ⟨_, rfl⟩
  have b3 : -2147483648 ≤ v3 ∧ v3 ≤ 2147483647 := by rw [← e3]; exact jb_any _
  refine jr.ials (i := (i + 3)) v3 rfl (by decide) hA0 (by omega) (by omega) (by omega) (by rw [← e3]; exact (Int32.ofInt_toInt _).symm) ?_
  refine jr.aload_n rfl rfl ?_
  refine jr.iload_n rfl rfl ?_
  refine jr.iconst rfl ?_
  refine jr.iadd rfl ?_
  obtain ⟨v4, e4⟩ : ∃ z_, (xs (i + 4).toNat).toInt = z_ := ⟨_, rfl⟩
  have b4 : -2147483648 ≤ v4 ∧ v4 ≤ 2147483647 := by rw [← e4]; exact jb_any _
  refine jr.ials (i := (i + 4)) v4 rfl (by decide) hA0 (by omega) (by omega) (by omega) (by rw [← e4]; exact (Int32.ofInt_toInt _).symm) ?_
  refine jr_v rfl rfl (Or.inl rfl) rfl rfl (by decide) rfl ⟨rfl, Nat.le_of_ble_eq_true rfl, Nat.le_of_ble_eq_true rfl⟩ rfl (jc.deep (c_PacketWall_pool_x cv.1 (FR.rfl _ M) (by omega) (by omega) (by omega) (by omega) rfl rfl (fun r5 M5 hC_M5 hf_M5 z5 w5_0 => ?_)) (by decide))
  have cv1 : CV M5 L S := ⟨hC_M5, (cv.2.1.fr hf_M5 rfl), (cv.2.2.1.fr cv.1 hf_M5 rfl), (by rw [hf_M5.g (show kd 413 = 44 from rfl) rfl, hf_M5.g (show kd 421 = 22 from rfl) rfl]; exact cv.2.2.2.1), ((hf_M5.g (show kd 421 = 22 from rfl) rfl).trans cv.2.2.2.2.1), ((hf_M5.g (show kd 0 = 35 from rfl) rfl).trans cv.2.2.2.2.2)⟩
  have rv1 : RV M5 L2 S := RV.tr rv (fun a i ha => hf_M5.g (kd_hi ha) rfl)
  have rd1 : RDA M M5 := rd.rr rv.2.2.2.1 rv.1 (fun a i ha => hf_M5.g (kd_hi ha) rfl)
  refine jr.pop rfl rfl ?_
  refine jr.aload_n rfl rfl ?_
  refine jr.aload_n rfl rfl ?_
  refine jr.iload_n rfl rfl ?_
  refine jr.iconst rfl ?_
  refine jr.iadd rfl ?_
  refine jr.ials (i := (i + 1)) v1 rfl (by decide) hA0 (by omega) (by omega) (by omega) (by rw [← e1]; exact (Int32.ofInt_toInt _).symm) ?_
  refine jr.aload_n rfl rfl ?_
  refine jr.iload_n rfl rfl ?_
  refine jr.iconst rfl ?_
  refine jr.iadd rfl ?_
  refine jr.ials (i := (i + 2)) v2 rfl (by decide) hA0 (by omega) (by omega) (by omega) (by rw [← e2]; exact (Int32.ofInt_toInt _).symm) ?_
  refine jr.aload_n rfl rfl ?_
  refine jr.iload_n rfl rfl ?_
  refine jr.iconst rfl ?_
  refine jr.iadd rfl ?_
  refine jr.ials (i := (i + 3)) v3 rfl (by decide) hA0 (by omega) (by omega) (by omega) (by rw [← e3]; exact (Int32.ofInt_toInt _).symm) ?_
  refine jr.aload_n rfl rfl ?_
  refine jr.iload_n rfl rfl ?_
  refine jr.iconst rfl ?_
  refine jr.iadd rfl ?_
  refine jr.ials (i := (i + 4)) v4 rfl (by decide) hA0 (by omega) (by omega) (by omega) (by rw [← e4]; exact (Int32.ofInt_toInt _).symm) ?_
  refine jr_v rfl rfl (Or.inl rfl) rfl rfl (by decide) rfl ⟨rfl, Nat.le_of_ble_eq_true rfl, Nat.le_of_ble_eq_true rfl⟩ rfl (jc.deep (r_pool_x rv1.1 rv1.2.1 rv1.2.2.1 (by omega) (by omega) (by omega) (by omega) (fun r6 M6 hI hH hF z6 w6 hf => ?_)) (by decide))
  have cv2 : CV M6 L S := cv1.z (fun a i ha => hf a i (by omega) (by omega) (by omega) (by omega))
  have rv2 : RV M6 L2 S := ⟨hI, hH, hF, (RG1.fr rv1.2.2.2.1 (fun a i ha => hf a i (rG_ne ha rfl) (rG_ne ha rfl) (rG_ne ha rfl) (rG_ne ha rfl))), by rw [show M6 650 = M5 650 from funext (fun i => hf 650 i (by decide) (by decide) (by decide) (by decide))]; exact rv1.2.2.2.2.1, (MC.fr rv1.2.2.2.2.2.1 (fun i => hf 652 i (by decide) (by decide) (by decide) (by decide)) (fun i => hf 653 i (by decide) (by decide) (by decide) (by decide)) (fun i => hf 654 i (by decide) (by decide) (by decide) (by decide)) (fun i => hf 655 i (by decide) (by decide) (by decide) (by decide)) (hf 598 82 (by decide) (by decide) (by decide) (by decide))), (AS.fr rv1.2.2.2.2.2.2.1 (fun i => hf 685 i (by decide) (by decide) (by decide) (by decide)) (hf 598 112 (by decide) (by decide) (by decide) (by decide))), ((hf 598 2 (by decide) (by decide) (by decide) (by decide)).trans rv1.2.2.2.2.2.2.2.1), X7.fr rv1.2.2.2.2.2.2.2.2 (fun i => hf 647 i (by decide) (by decide) (by decide) (by decide))⟩
  have ho := op_pool rd1 rv1.2.2.2.1 rv1.1 hf_M5 w5_0 w6 hf
  have rd2 : RDA M6 M6 := ho.1.c (fun a i ha => hf a i (by omega) (by omega) (by omega) (by omega))
  have heq : r5 = r6 := ho.2
  refine jr.pop rfl rfl ?_
  refine jr.goto rfl rfl ?_
  exact k _ _ (Int.le_refl _) (by omega) (cv2.le (by omega)) (rv2.le (by omega)) rd2
theorem lop_23 {A : Nat → Option (Nat × (Nat → Int32))} [HA A] {Q : Option Value → jm → Prop} {N : Nat} {xs : Nat → Int32} (hA0 : A 0 = some (N, xs)) (hN : N ≤ 4000) {M : jm} {L L2 S i : Int} (cv : CV M L S) (rv : RV M L2 S) (rd : RDA M M) (hS : 0 ≤ S ∧ S ≤ 900000) (hL : 0 ≤ L ∧ L ≤ 1900000000) (hL2 : 0 ≤ L2 ∧ L2 ≤ 1900000000) (hi : 0 ≤ i ∧ i + 6 ≤ N) (k : ∀ (M' : jm) (S' : Int), S ≤ S' → S' ≤ S + 1000 → CV M' (L + 1000000) S' → RV M' (L2 + 2689623) S' → RDA M' M' → jr A 364 xm_law 1328 [(3, .int (Int32.ofInt (i))), (2, .ref (598)), (1, .ref (0)), (0, .ref (1000000))] [] M' Q) : jr A 364 xm_law 927 [(3, .int (Int32.ofInt (i))), (2, .ref (598)), (1, .ref (0)), (0, .ref (1000000))] [] M Q := by
  have hC_M := cv.1
  have hne := cv.2.2.2.1
  have hz4 := cv.2.2.2.2.1
  have hS8 := cv.2.2.2.2.2
  refine jr.aload_n rfl rfl ?_
  refine jr.aload_n rfl rfl ?_
  refine jr.iload_n rfl rfl ?_
  refine jr.iconst rfl ?_
  refine jr.iadd rfl ?_
  obtain ⟨v1, e1⟩ : ∃ z_, (xs (i + 1).toNat).toInt = z_ := ⟨_, rfl⟩
  have b1 : -2147483648 ≤ v1 ∧ v1 ≤ 2147483647 := by rw [← e1]; exact jb_any _
  refine jr.ials (i := (i + 1)) v1 rfl (by decide) hA0 (by omega) (by omega) (by omega) (by rw [← e1]; exact (Int32.ofInt_toInt _).symm) ?_
  refine jr.aload_n rfl rfl ?_
  refine jr.iload_n rfl rfl ?_
  refine jr.iconst rfl ?_
  refine jr.iadd rfl ?_
  obtain ⟨v2, e2⟩ : ∃ z_, (xs (i + 2).toNat).toInt = z_ := ⟨_, rfl⟩
  have b2 : -2147483648 ≤ v2 ∧ v2 ≤ 2147483647 := by rw [← e2]; exact jb_any _
  refine jr.ials (i := (i + 2)) v2 rfl (by decide) hA0 (by omega) (by omega) (by omega) (by rw [← e2]; exact (Int32.ofInt_toInt _).symm) ?_
  refine jr_v rfl rfl (Or.inl rfl) rfl rfl (by decide) rfl ⟨rfl, Nat.le_of_ble_eq_true rfl, Nat.le_of_ble_eq_true rfl⟩ rfl (jc.deep (c_PacketWall_change_x cv.1 (FR.rfl _ M) (by omega) (by omega) rfl rfl rfl (rd.2.2.2.2.1.1 _) (fun r3 M3 hC_M3 hf_M3 z3 w3_0 => ?_)) (by decide))
  have cv1 : CV M3 L S := ⟨hC_M3, (cv.2.1.fr hf_M3 rfl), (cv.2.2.1.fr cv.1 hf_M3 rfl), (by rw [hf_M3.g (show kd 413 = 44 from rfl) rfl, hf_M3.g (show kd 421 = 22 from rfl) rfl]; exact cv.2.2.2.1), ((hf_M3.g (show kd 421 = 22 from rfl) rfl).trans cv.2.2.2.2.1), ((hf_M3.g (show kd 0 = 35 from rfl) rfl).trans cv.2.2.2.2.2)⟩
  have rv1 : RV M3 L2 S := RV.tr rv (fun a i ha => hf_M3.g (kd_hi ha) rfl)
  have rd1 : RDA M M3 := rd.rr rv.2.2.2.1 rv.1 (fun a i ha => hf_M3.g (kd_hi ha) rfl)
  refine jr.pop rfl rfl ?_
  refine jr.aload_n rfl rfl ?_
  refine jr.aload_n rfl rfl ?_
  refine jr.iload_n rfl rfl ?_
  refine jr.iconst rfl ?_
  refine jr.iadd rfl ?_
  refine jr.ials (i := (i + 1)) v1 rfl (by decide) hA0 (by omega) (by omega) (by omega) (by rw [← e1]; exact (Int32.ofInt_toInt _).symm) ?_
  refine jr.aload_n rfl rfl ?_
  refine jr.iload_n rfl rfl ?_
  refine jr.iconst rfl ?_
  refine jr.iadd rfl ?_
  refine jr.ials (i := (i + 2)) v2 rfl (by decide) hA0 (by omega) (by omega) (by omega) (by rw [← e2]; exact (Int32.ofInt_toInt _).symm) ?_
  refine jr_v rfl rfl (Or.inl rfl) rfl rfl (by decide) rfl ⟨rfl, Nat.le_of_ble_eq_true rfl, Nat.le_of_ble_eq_true rfl⟩ rfl (jc.deep (r_change_x rv1.1 rv1.2.1 rv1.2.2.1 (by omega) (by omega) (fun r4 M4 hI hH hF z4 w4 hf => ?_)) (by decide))
  have cv2 : CV M4 L S := cv1.z (fun a i ha => hf a i (by omega) (by omega) (by omega))
  have rv2 : RV M4 L2 S := ⟨hI, hH, hF, (RG1.fr rv1.2.2.2.1 (fun a i ha => hf a i (rG_ne ha rfl) (rG_ne ha rfl) (rG_ne ha rfl))), by rw [show M4 650 = M3 650 from funext (fun i => hf 650 i (by decide) (by decide) (by decide))]; exact rv1.2.2.2.2.1, (MC.fr rv1.2.2.2.2.2.1 (fun i => hf 652 i (by decide) (by decide) (by decide)) (fun i => hf 653 i (by decide) (by decide) (by decide)) (fun i => hf 654 i (by decide) (by decide) (by decide)) (fun i => hf 655 i (by decide) (by decide) (by decide)) (hf 598 82 (by decide) (by decide) (by decide))), (AS.fr rv1.2.2.2.2.2.2.1 (fun i => hf 685 i (by decide) (by decide) (by decide)) (hf 598 112 (by decide) (by decide) (by decide))), ((hf 598 2 (by decide) (by decide) (by decide)).trans rv1.2.2.2.2.2.2.2.1), X7.fr rv1.2.2.2.2.2.2.2.2 (fun i => hf 647 i (by decide) (by decide) (by decide))⟩
  have ho := op_change rd1 rv1.2.2.2.1 rv1.1 hf_M3 w3_0 w4 hf
  have rd2 : RDA M4 M4 := ho.1.c (fun a i ha => hf a i (by omega) (by omega) (by omega))
  have heq : r3 = r4 := ho.2
  refine jr.pop rfl rfl ?_
  refine jr.goto rfl rfl ?_
  exact k _ _ (Int.le_refl _) (by omega) (cv2.le (by omega)) (rv2.le (by omega)) rd2
theorem lop_24 {A : Nat → Option (Nat × (Nat → Int32))} [HA A] {Q : Option Value → jm → Prop} {N : Nat} {xs : Nat → Int32} (hA0 : A 0 = some (N, xs)) (hN : N ≤ 4000) {M : jm} {L L2 S i : Int} (cv : CV M L S) (rv : RV M L2 S) (rd : RDA M M) (hS : 0 ≤ S ∧ S ≤ 900000) (hL : 0 ≤ L ∧ L ≤ 1900000000) (hL2 : 0 ≤ L2 ∧ L2 ≤ 1900000000) (hi : 0 ≤ i ∧ i + 6 ≤ N) (k : ∀ (M' : jm) (S' : Int), S ≤ S' → S' ≤ S + 1000 → CV M' (L + 1000000) S' → RV M' (L2 + 2689623) S' → RDA M' M' → jr A 364 xm_law 1328 [(3, .int (Int32.ofInt (i))), (2, .ref (598)), (1, .ref (0)), (0, .ref (1000000))] [] M' Q) : jr A 364 xm_law 960 [(3, .int (Int32.ofInt (i))), (2, .ref (598)), (1, .ref (0)), (0, .ref (1000000))] [] M Q := by
  have hC_M := cv.1
  have hne := cv.2.2.2.1
  have hz4 := cv.2.2.2.2.1
  have hS8 := cv.2.2.2.2.2
  refine jr.aload_n rfl rfl ?_
  refine jr.aload_n rfl rfl ?_
  refine jr.iload_n rfl rfl ?_
  refine jr.iconst rfl ?_
  refine jr.iadd rfl ?_
  obtain ⟨v1, e1⟩ : ∃ z_, (xs (i + 1).toNat).toInt = z_ := ⟨_, rfl⟩
  have b1 : -2147483648 ≤ v1 ∧ v1 ≤ 2147483647 := by rw [← e1]; exact jb_any _
  refine jr.ials (i := (i + 1)) v1 rfl (by decide) hA0 (by omega) (by omega) (by omega) (by rw [← e1]; exact (Int32.ofInt_toInt _).symm) ?_
  refine jr_v rfl rfl (Or.inl rfl) rfl rfl (by decide) rfl ⟨rfl, Nat.le_of_ble_eq_true rfl, Nat.le_of_ble_eq_true rfl⟩ rfl (jc.deep (c_PacketWall_turn_x cv.1 (FR.rfl _ M) (by omega) rfl rfl (rd.2.1.b rv.1) (fun r2 M2 hC_M2 hf_M2 z2 w2_0 => ?_)) (by decide))
  have cv1 : CV M2 L S := ⟨hC_M2, (cv.2.1.fr hf_M2 rfl), (cv.2.2.1.fr cv.1 hf_M2 rfl), (by rw [hf_M2.g (show kd 413 = 44 from rfl) rfl, hf_M2.g (show kd 421 = 22 from rfl) rfl]; exact cv.2.2.2.1), ((hf_M2.g (show kd 421 = 22 from rfl) rfl).trans cv.2.2.2.2.1), ((hf_M2.g (show kd 0 = 35 from rfl) rfl).trans cv.2.2.2.2.2)⟩
  have rv1 : RV M2 L2 S := RV.tr rv (fun a i ha => hf_M2.g (kd_hi ha) rfl)
  have rd1 : RDA M M2 := rd.rr rv.2.2.2.1 rv.1 (fun a i ha => hf_M2.g (kd_hi ha) rfl)
  rw [rf_hi (fun a i ha => hf_M2.g (kd_hi ha) rfl)] at w2_0
  refine jr.pop rfl rfl ?_
  refine jr.aload_n rfl rfl ?_
  refine jr.aload_n rfl rfl ?_
  refine jr.iload_n rfl rfl ?_
  refine jr.iconst rfl ?_
  refine jr.iadd rfl ?_
  refine jr.ials (i := (i + 1)) v1 rfl (by decide) hA0 (by omega) (by omega) (by omega) (by rw [← e1]; exact (Int32.ofInt_toInt _).symm) ?_
  refine jr_v rfl rfl (Or.inl rfl) rfl rfl (by decide) rfl ⟨rfl, Nat.le_of_ble_eq_true rfl, Nat.le_of_ble_eq_true rfl⟩ rfl (jc.deep (r_turn_x rv1.1 rv1.2.1 rv1.2.2.1 (by omega) (fun r3 M3 hI hH hF z3 w3 hf hk => ?_)) (by decide))
  have cv2 : CV M3 L S := cv1.z (fun a i ha => hf a i (by omega) (by omega) (by omega) (by omega) (by omega))
  have rv2 : RV M3 L2 S := ⟨hI, hH, hF, (RG1.fr rv1.2.2.2.1 (fun a i ha => hf a i (rG_ne ha rfl) (rG_ne ha rfl) (rG_ne ha rfl) (rG_ne ha rfl) (rG_ne ha rfl))), by rw [show M3 650 = M2 650 from funext (fun i => hf 650 i (by decide) (by decide) (by decide) (by decide) (by decide))]; exact rv1.2.2.2.2.1, (MC.fr rv1.2.2.2.2.2.1 (fun i => hf 652 i (by decide) (by decide) (by decide) (by decide) (by decide)) (fun i => hf 653 i (by decide) (by decide) (by decide) (by decide) (by decide)) (fun i => hf 654 i (by decide) (by decide) (by decide) (by decide) (by decide)) (fun i => hf 655 i (by decide) (by decide) (by decide) (by decide) (by decide)) (hk 82 (by decide) (by decide) (by decide) (by decide) (by decide) (by decide) (by decide) (by decide) (by decide) (by decide) (by decide) (by decide))), (AS.fr rv1.2.2.2.2.2.2.1 (fun i => hf 685 i (by decide) (by decide) (by decide) (by decide) (by decide)) (hk 112 (by decide) (by decide) (by decide) (by decide) (by decide) (by decide) (by decide) (by decide) (by decide) (by decide) (by decide) (by decide))), ((hk 2 (by decide) (by decide) (by decide) (by decide) (by decide) (by decide) (by decide) (by decide) (by decide) (by decide) (by decide) (by decide)).trans rv1.2.2.2.2.2.2.2.1), X7.fr rv1.2.2.2.2.2.2.2.2 (fun i => hf 647 i (by decide) (by decide) (by decide) (by decide) (by decide))⟩
  have ho := op_turn rd1 rv1.2.2.2.1 rv1.1 hf_M2 w2_0 w3 hf hk
  have rd2 : RDA M3 M3 := ho.1.c (fun a i ha => hf a i (by omega) (by omega) (by omega) (by omega) (by omega))
  have heq : r2 = r3 := ho.2
  refine jr.pop rfl rfl ?_
  refine jr.goto rfl rfl ?_
  exact k _ _ (Int.le_refl _) (by omega) (cv2.le (by omega)) (rv2.le (by omega)) rd2
theorem lop_25 {A : Nat → Option (Nat × (Nat → Int32))} [HA A] {Q : Option Value → jm → Prop} {N : Nat} {xs : Nat → Int32} (hA0 : A 0 = some (N, xs)) (hN : N ≤ 4000) {M : jm} {L L2 S i : Int} (cv : CV M L S) (rv : RV M L2 S) (rd : RDA M M) (hS : 0 ≤ S ∧ S ≤ 900000) (hL : 0 ≤ L ∧ L ≤ 1900000000) (hL2 : 0 ≤ L2 ∧ L2 ≤ 1900000000) (hi : 0 ≤ i ∧ i + 6 ≤ N) (k : ∀ (M' : jm) (S' : Int), S ≤ S' → S' ≤ S + 1000 → CV M' (L + 1000000) S' → RV M' (L2 + 2689623) S' → RDA M' M' → jr A 364 xm_law 1328 [(3, .int (Int32.ofInt (i))), (2, .ref (598)), (1, .ref (0)), (0, .ref (1000000))] [] M' Q) : jr A 364 xm_law 983 [(3, .int (Int32.ofInt (i))), (2, .ref (598)), (1, .ref (0)), (0, .ref (1000000))] [] M Q := by
  have hC_M := cv.1
  have hne := cv.2.2.2.1
  have hz4 := cv.2.2.2.2.1
  have hS8 := cv.2.2.2.2.2
  refine jr.aload_n rfl rfl ?_
  refine jr_v rfl rfl (Or.inl rfl) rfl rfl (by decide) rfl ⟨rfl, Nat.le_of_ble_eq_true rfl, Nat.le_of_ble_eq_true rfl⟩ rfl (jc.deep (c_PacketWall_rules_o cv.1 (FR.rfl _ M) cv.2.2.1 cv.2.2.2.1 (fun r1 M1 hC_M1 hf_M1 z1 w1_0 w1_1 w1_2 => ?_)) (by decide))
  have cv1 : CV M1 L S := ⟨hC_M1, (cv.2.1.fr hf_M1 rfl), w1_0, w1_1, ((hf_M1.g (show kd 421 = 22 from rfl) rfl).trans cv.2.2.2.2.1), ((hf_M1.g (show kd 0 = 35 from rfl) rfl).trans cv.2.2.2.2.2)⟩
  have rv1 : RV M1 L2 S := RV.tr rv (fun a i ha => hf_M1.g (kd_hi ha) rfl)
  have rd1 : RDA M M1 := rd.rr rv.2.2.2.1 rv.1 (fun a i ha => hf_M1.g (kd_hi ha) rfl)
  refine jr.pop rfl rfl ?_
  refine jr.aload_n rfl rfl ?_
  refine jr_v rfl rfl (Or.inl rfl) rfl rfl (by decide) rfl ⟨rfl, Nat.le_of_ble_eq_true rfl, Nat.le_of_ble_eq_true rfl⟩ rfl (jc.deep (r_rules_x rv1.1 rv1.2.1 rv1.2.2.1 rv1.2.2.2.2.2.1 rv1.2.2.2.2.1 (fun r2 M2 hI hH hF z2 hmc h1 hf hk => ?_)) (by decide))
  have cv2 : CV M2 L S := cv1.z (fun a i ha => hf a i (by omega) (by omega) (by omega) (by omega) (by omega) (by omega) (by omega) (by omega) (by omega) (by omega) (by omega) (by omega) (by omega) (by omega) (by omega) (by omega) (by omega) (by omega) (by omega) (by omega))
  have rv2 : RV M2 L2 S := ⟨hI, hH, hF, (RG1.fr rv1.2.2.2.1 (fun a i ha => hf a i (rG_ne ha rfl) (rG_ne ha rfl) (rG_ne ha rfl) (rG_ne ha rfl) (rG_ne ha rfl) (rG_ne ha rfl) (rG_ne ha rfl) (rG_ne ha rfl) (rG_ne ha rfl) (rG_ne ha rfl) (rG_ne ha rfl) (rG_ne ha rfl) (rG_ne ha rfl) (rG_ne ha rfl) (rG_ne ha rfl) (rG_ne ha rfl) (rG_ne ha rfl) (rG_ne ha rfl) (rG_ne ha rfl) (rG_ne ha rfl))), by rw [show M2 650 = M1 650 from funext (fun i => hf 650 i (by decide) (by decide) (by decide) (by decide) (by decide) (by decide) (by decide) (by decide) (by decide) (by decide) (by decide) (by decide) (by decide) (by decide) (by decide) (by decide) (by decide) (by decide) (by decide) (by decide))]; exact rv1.2.2.2.2.1, hmc, (AS.fr rv1.2.2.2.2.2.2.1 (fun i => hf 685 i (by decide) (by decide) (by decide) (by decide) (by decide) (by decide) (by decide) (by decide) (by decide) (by decide) (by decide) (by decide) (by decide) (by decide) (by decide) (by decide) (by decide) (by decide) (by decide) (by decide)) (hk 112 (by decide) (by decide) (by decide) (by decide) (by decide) (by decide) (by decide) (by decide) (by decide) (by decide) (by decide) (by decide) (by decide) (by decide) (by decide) (by decide) (by decide) (by decide) (by decide) (by decide) (by decide))), ((hk 2 (by decide) (by decide) (by decide) (by decide) (by decide) (by decide) (by decide) (by decide) (by decide) (by decide) (by decide) (by decide) (by decide) (by decide) (by decide) (by decide) (by decide) (by decide) (by decide) (by decide) (by decide)).trans rv1.2.2.2.2.2.2.2.1), X7.fr rv1.2.2.2.2.2.2.2.2 (fun i => hf 647 i (by decide) (by decide) (by decide) (by decide) (by decide) (by decide) (by decide) (by decide) (by decide) (by decide) (by decide) (by decide) (by decide) (by decide) (by decide) (by decide) (by decide) (by decide) (by decide) (by decide))⟩
  have rd2 : RDA M2 M2 := (oq_rules rd1 rv1.2.2.2.1 rv1.1 hf_M1 w1_2 h1 hf hk).c (fun a i ha => hf a i (by omega) (by omega) (by omega) (by omega) (by omega) (by omega) (by omega) (by omega) (by omega) (by omega) (by omega) (by omega) (by omega) (by omega) (by omega) (by omega) (by omega) (by omega) (by omega) (by omega))
  refine jr.pop rfl rfl ?_
  refine jr.goto rfl rfl ?_
  exact k _ _ (Int.le_refl _) (by omega) (cv2.le (by omega)) (rv2.le (by omega)) rd2
theorem lop_26 {A : Nat → Option (Nat × (Nat → Int32))} [HA A] {Q : Option Value → jm → Prop} {N : Nat} {xs : Nat → Int32} (hA0 : A 0 = some (N, xs)) (hN : N ≤ 4000) {M : jm} {L L2 S i : Int} (cv : CV M L S) (rv : RV M L2 S) (rd : RDA M M) (hS : 0 ≤ S ∧ S ≤ 900000) (hL : 0 ≤ L ∧ L ≤ 1900000000) (hL2 : 0 ≤ L2 ∧ L2 ≤ 1900000000) (hi : 0 ≤ i ∧ i + 6 ≤ N) (k : ∀ (M' : jm) (S' : Int), S ≤ S' → S' ≤ S + 1000 → CV M' (L + 1000000) S' → RV M' (L2 + 2689623) S' → RDA M' M' → jr A 364 xm_law 1328 [(3, .int (Int32.ofInt (i))), (2, .ref (598)), (1, .ref (0)), (0, .ref (1000000))] [] M' Q) : jr A 364 xm_law 996 [(3, .int (Int32.ofInt (i))), (2, .ref (598)), (1, .ref (0)), (0, .ref (1000000))] [] M Q := by
  have hC_M := cv.1
  have hne := cv.2.2.2.1
  have hz4 := cv.2.2.2.2.1
  have hS8 := cv.2.2.2.2.2
  refine jr.aload_n rfl rfl ?_
  refine jr_v rfl rfl (Or.inl rfl) rfl rfl (by decide) rfl ⟨rfl, Nat.le_of_ble_eq_true rfl, Nat.le_of_ble_eq_true rfl⟩ rfl (jc.deep (c_PacketWall_wrong cv.1 (fun r1 z1  => ?_)) (by decide))
  refine jr.pop rfl rfl ?_
  refine jr.aload_n rfl rfl ?_
  refine jr_v rfl rfl (Or.inl rfl) rfl rfl (by decide) rfl ⟨rfl, Nat.le_of_ble_eq_true rfl, Nat.le_of_ble_eq_true rfl⟩ rfl (jc.deep (r_wrong_x rv.1 rv.2.1 rv.2.2.1 (fun r2 M2 hI hH hF z2 hf => ?_)) (by decide))
  have cv2 : CV M2 L S := cv.z (fun a i ha => hf a i (by omega))
  have rv2 : RV M2 L2 S := ⟨hI, hH, hF, (RG1.fr rv.2.2.2.1 (fun a i ha => hf a i (rG_ne ha rfl))), by rw [show M2 650 = M 650 from funext (fun i => hf 650 i (by decide))]; exact rv.2.2.2.2.1, (MC.fr rv.2.2.2.2.2.1 (fun i => hf 652 i (by decide)) (fun i => hf 653 i (by decide)) (fun i => hf 654 i (by decide)) (fun i => hf 655 i (by decide)) (hf 598 82 (by decide))), (AS.fr rv.2.2.2.2.2.2.1 (fun i => hf 685 i (by decide)) (hf 598 112 (by decide))), ((hf 598 2 (by decide)).trans rv.2.2.2.2.2.2.2.1), X7.fr rv.2.2.2.2.2.2.2.2 (fun i => hf 647 i (by decide))⟩
  have rd2 : RDA M2 M2 := (oq_wrong rd rv.2.2.2.1 rv.1  hf ).c (fun a i ha => hf a i (by omega))
  refine jr.pop rfl rfl ?_
  refine jr.goto rfl rfl ?_
  exact k _ _ (Int.le_refl _) (by omega) (cv2.le (by omega)) (rv2.le (by omega)) rd2
theorem lop_27 {A : Nat → Option (Nat × (Nat → Int32))} [HA A] {Q : Option Value → jm → Prop} {N : Nat} {xs : Nat → Int32} (hA0 : A 0 = some (N, xs)) (hN : N ≤ 4000) {M : jm} {L L2 S i : Int} (cv : CV M L S) (rv : RV M L2 S) (rd : RDA M M) (hS : 0 ≤ S ∧ S ≤ 900000) (hL : 0 ≤ L ∧ L ≤ 1900000000) (hL2 : 0 ≤ L2 ∧ L2 ≤ 1900000000) (hi : 0 ≤ i ∧ i + 6 ≤ N) (k : ∀ (M' : jm) (S' : Int), S ≤ S' → S' ≤ S + 1000 → CV M' (L + 1000000) S' → RV M' (L2 + 2689623) S' → RDA M' M' → jr A 364 xm_law 1328 [(3, .int (Int32.ofInt (i))), (2, .ref (598)), (1, .ref (0)), (0, .ref (1000000))] [] M' Q) : jr A 364 xm_law 1009 [(3, .int (Int32.ofInt (i))), (2, .ref (598)), (1, .ref (0)), (0, .ref (1000000))] [] M Q := by
  have hC_M := cv.1
  have hne := cv.2.2.2.1
  have hz4 := cv.2.2.2.2.1
  have hS8 := cv.2.2.2.2.2
  refine jr.aload_n rfl rfl ?_
  refine jr.aload_n rfl rfl ?_
  refine jr.iload_n rfl rfl ?_
  refine jr.iconst rfl ?_
  refine jr.iadd rfl ?_
  obtain ⟨v1, e1⟩ : ∃ z_, (xs (i + 1).toNat).toInt = z_ := ⟨_, rfl⟩
  have b1 : -2147483648 ≤ v1 ∧ v1 ≤ 2147483647 := by rw [← e1]; exact jb_any _
  refine jr.ials (i := (i + 1)) v1 rfl (by decide) hA0 (by omega) (by omega) (by omega) (by rw [← e1]; exact (Int32.ofInt_toInt _).symm) ?_
  refine jr_v rfl rfl (Or.inl rfl) rfl rfl (by decide) rfl ⟨rfl, Nat.le_of_ble_eq_true rfl, Nat.le_of_ble_eq_true rfl⟩ rfl (jc.deep (c_PacketWall_verdict_o cv.1 (FR.rfl _ M) (by omega) (by omega) cv.2.1 (by omega) cv.2.2.1 rfl (fun r2 M2 hC_M2 hf_M2 z2 w2_0 w2_1 w2_2 => ?_)) (by decide))
  have cv1 : CV M2 (L + 1000000) S := ⟨hC_M2, w2_0, (cv.2.2.1.fr cv.1 hf_M2 rfl), (by rw [hf_M2.g (show kd 413 = 44 from rfl) rfl, hf_M2.g (show kd 421 = 22 from rfl) rfl]; exact cv.2.2.2.1), (by have hq := w2_1; omega), ((hf_M2.g (show kd 0 = 35 from rfl) rfl).trans cv.2.2.2.2.2)⟩
  have rv1 : RV M2 L2 S := RV.tr rv (fun a i ha => hf_M2.g (kd_hi ha) rfl)
  have rd1 : RDA M M2 := rd.rr rv.2.2.2.1 rv.1 (fun a i ha => hf_M2.g (kd_hi ha) rfl)
  refine jr.pop rfl rfl ?_
  refine jr.aload_n rfl rfl ?_
  refine jr.aload_n rfl rfl ?_
  refine jr.iload_n rfl rfl ?_
  refine jr.iconst rfl ?_
  refine jr.iadd rfl ?_
  refine jr.ials (i := (i + 1)) v1 rfl (by decide) hA0 (by omega) (by omega) (by omega) (by rw [← e1]; exact (Int32.ofInt_toInt _).symm) ?_
  refine jr_v rfl rfl (Or.inl rfl) rfl rfl (by decide) rfl ⟨rfl, Nat.le_of_ble_eq_true rfl, Nat.le_of_ble_eq_true rfl⟩ rfl (jc.deep (r_verdict rv1.1 rv1.2.1 rv1.2.2.1 (by omega) rv1.2.2.2.2.2.1 rv1.2.2.2.2.2.2.1 (by omega) (fun r3 M3 hI hH hF z3 has hf hk => ?_)) (by decide))
  have cv2 : CV M3 (L + 1000000) S := cv1.z (fun a i ha => hf a i (by omega) (by omega) (by omega) (by omega) (by omega) (by omega) (by omega) (by omega) (by omega) (by omega) (by omega) (by omega) (by omega) (by omega) (by omega) (by omega) (by omega) (by omega) (by omega) (by omega) (by omega) (by omega) (by omega) (by omega))
  have rv2 : RV M3 (L2 + 2689623) S := ⟨hI, hH, hF, (RG1.fr rv1.2.2.2.1 (fun a i ha => hf a i (rG_ne ha rfl) (rG_ne ha rfl) (rG_ne ha rfl) (rG_ne ha rfl) (rG_ne ha rfl) (rG_ne ha rfl) (rG_ne ha rfl) (rG_ne ha rfl) (rG_ne ha rfl) (rG_ne ha rfl) (rG_ne ha rfl) (rG_ne ha rfl) (rG_ne ha rfl) (rG_ne ha rfl) (rG_ne ha rfl) (rG_ne ha rfl) (rG_ne ha rfl) (rG_ne ha rfl) (rG_ne ha rfl) (rG_ne ha rfl) (rG_ne ha rfl) (rG_ne ha rfl) (rG_ne ha rfl) (rG_ne ha rfl))), by rw [show M3 650 = M2 650 from funext (fun i => hf 650 i (by decide) (by decide) (by decide) (by decide) (by decide) (by decide) (by decide) (by decide) (by decide) (by decide) (by decide) (by decide) (by decide) (by decide) (by decide) (by decide) (by decide) (by decide) (by decide) (by decide) (by decide) (by decide) (by decide) (by decide))]; exact rv1.2.2.2.2.1, (MC.fr rv1.2.2.2.2.2.1 (fun i => hf 652 i (by decide) (by decide) (by decide) (by decide) (by decide) (by decide) (by decide) (by decide) (by decide) (by decide) (by decide) (by decide) (by decide) (by decide) (by decide) (by decide) (by decide) (by decide) (by decide) (by decide) (by decide) (by decide) (by decide) (by decide)) (fun i => hf 653 i (by decide) (by decide) (by decide) (by decide) (by decide) (by decide) (by decide) (by decide) (by decide) (by decide) (by decide) (by decide) (by decide) (by decide) (by decide) (by decide) (by decide) (by decide) (by decide) (by decide) (by decide) (by decide) (by decide) (by decide)) (fun i => hf 654 i (by decide) (by decide) (by decide) (by decide) (by decide) (by decide) (by decide) (by decide) (by decide) (by decide) (by decide) (by decide) (by decide) (by decide) (by decide) (by decide) (by decide) (by decide) (by decide) (by decide) (by decide) (by decide) (by decide) (by decide)) (fun i => hf 655 i (by decide) (by decide) (by decide) (by decide) (by decide) (by decide) (by decide) (by decide) (by decide) (by decide) (by decide) (by decide) (by decide) (by decide) (by decide) (by decide) (by decide) (by decide) (by decide) (by decide) (by decide) (by decide) (by decide) (by decide)) (hk 82 (by decide) (by decide) (by decide) (by decide) (by decide) (by decide) (by decide) (by decide) (by decide) (by decide) (by decide) (by decide) (by decide) (by decide) (by decide) (by decide) (by decide) (by decide) (by decide) (by decide) (by decide) (by decide) (by decide) (by decide) (by decide) (by decide) (by decide) (by decide) (by decide) (by decide) (by decide) (by decide))), has, ((hk 2 (by decide) (by decide) (by decide) (by decide) (by decide) (by decide) (by decide) (by decide) (by decide) (by decide) (by decide) (by decide) (by decide) (by decide) (by decide) (by decide) (by decide) (by decide) (by decide) (by decide) (by decide) (by decide) (by decide) (by decide) (by decide) (by decide) (by decide) (by decide) (by decide) (by decide) (by decide) (by decide)).trans rv1.2.2.2.2.2.2.2.1), X7.fr rv1.2.2.2.2.2.2.2.2 (fun i => hf 647 i (by decide) (by decide) (by decide) (by decide) (by decide) (by decide) (by decide) (by decide) (by decide) (by decide) (by decide) (by decide) (by decide) (by decide) (by decide) (by decide) (by decide) (by decide) (by decide) (by decide) (by decide) (by decide) (by decide) (by decide))⟩
  have rd2 : RDA M3 M3 := (oq_verdict rd1 rv1.2.2.2.1 rv1.1 hf_M2 w2_2 hf hk).c (fun a i ha => hf a i (by omega) (by omega) (by omega) (by omega) (by omega) (by omega) (by omega) (by omega) (by omega) (by omega) (by omega) (by omega) (by omega) (by omega) (by omega) (by omega) (by omega) (by omega) (by omega) (by omega) (by omega) (by omega) (by omega) (by omega))
  refine jr.pop rfl rfl ?_
  refine jr.goto rfl rfl ?_
  exact k _ _ (Int.le_refl _) (by omega) (cv2.le (by omega)) (rv2.le (by omega)) rd2
theorem lop_28 {A : Nat → Option (Nat × (Nat → Int32))} [HA A] {Q : Option Value → jm → Prop} {N : Nat} {xs : Nat → Int32} (hA0 : A 0 = some (N, xs)) (hN : N ≤ 4000) {M : jm} {L L2 S i : Int} (cv : CV M L S) (rv : RV M L2 S) (rd : RDA M M) (hS : 0 ≤ S ∧ S ≤ 900000) (hL : 0 ≤ L ∧ L ≤ 1900000000) (hL2 : 0 ≤ L2 ∧ L2 ≤ 1900000000) (hi : 0 ≤ i ∧ i + 6 ≤ N) (k : ∀ (M' : jm) (S' : Int), S ≤ S' → S' ≤ S + 1000 → CV M' (L + 1000000) S' → RV M' (L2 + 2689623) S' → RDA M' M' → jr A 364 xm_law 1328 [(3, .int (Int32.ofInt (i))), (2, .ref (598)), (1, .ref (0)), (0, .ref (1000000))] [] M' Q) : jr A 364 xm_law 1032 [(3, .int (Int32.ofInt (i))), (2, .ref (598)), (1, .ref (0)), (0, .ref (1000000))] [] M Q := by
  have hC_M := cv.1
  have hne := cv.2.2.2.1
  have hz4 := cv.2.2.2.2.1
  have hS8 := cv.2.2.2.2.2
  refine jr.aload_n rfl rfl ?_
  refine jr.aload_n rfl rfl ?_
  refine jr.iload_n rfl rfl ?_
  refine jr.iconst rfl ?_
  refine jr.iadd rfl ?_
  obtain ⟨v1, e1⟩ : ∃ z_, (xs (i + 1).toNat).toInt = z_ := ⟨_, rfl⟩
  have b1 : -2147483648 ≤ v1 ∧ v1 ≤ 2147483647 := by rw [← e1]; exact jb_any _
  refine jr.ials (i := (i + 1)) v1 rfl (by decide) hA0 (by omega) (by omega) (by omega) (by rw [← e1]; exact (Int32.ofInt_toInt _).symm) ?_
  refine jr_v rfl rfl (Or.inl rfl) rfl rfl (by decide) rfl ⟨rfl, Nat.le_of_ble_eq_true rfl, Nat.le_of_ble_eq_true rfl⟩ rfl (jc.deep (c_PacketWall_why cv.1 (by omega) (fun r2 z2  => ?_)) (by decide))
  refine jr.pop rfl rfl ?_
  refine jr.aload_n rfl rfl ?_
  refine jr.aload_n rfl rfl ?_
  refine jr.iload_n rfl rfl ?_
  refine jr.iconst rfl ?_
  refine jr.iadd rfl ?_
  refine jr.ials (i := (i + 1)) v1 rfl (by decide) hA0 (by omega) (by omega) (by omega) (by rw [← e1]; exact (Int32.ofInt_toInt _).symm) ?_
  refine jr_v rfl rfl (Or.inl rfl) rfl rfl (by decide) rfl ⟨rfl, Nat.le_of_ble_eq_true rfl, Nat.le_of_ble_eq_true rfl⟩ rfl (jc.deep (r_why_x rv.1 rv.2.1 rv.2.2.1 (by omega) (fun r3 M3 hI hH hF z3 hf => ?_)) (by decide))
  have cv2 : CV M3 L S := cv.z (fun a i ha => hf a i (by omega))
  have rv2 : RV M3 L2 S := ⟨hI, hH, hF, (RG1.fr rv.2.2.2.1 (fun a i ha => hf a i (rG_ne ha rfl))), by rw [show M3 650 = M 650 from funext (fun i => hf 650 i (by decide))]; exact rv.2.2.2.2.1, (MC.fr rv.2.2.2.2.2.1 (fun i => hf 652 i (by decide)) (fun i => hf 653 i (by decide)) (fun i => hf 654 i (by decide)) (fun i => hf 655 i (by decide)) (hf 598 82 (by decide))), (AS.fr rv.2.2.2.2.2.2.1 (fun i => hf 685 i (by decide)) (hf 598 112 (by decide))), ((hf 598 2 (by decide)).trans rv.2.2.2.2.2.2.2.1), X7.fr rv.2.2.2.2.2.2.2.2 (fun i => hf 647 i (by decide))⟩
  have rd2 : RDA M3 M3 := (oq_why rd rv.2.2.2.1 rv.1  hf ).c (fun a i ha => hf a i (by omega))
  refine jr.pop rfl rfl ?_
  refine jr.goto rfl rfl ?_
  exact k _ _ (Int.le_refl _) (by omega) (cv2.le (by omega)) (rv2.le (by omega)) rd2
theorem lop_29 {A : Nat → Option (Nat × (Nat → Int32))} [HA A] {Q : Option Value → jm → Prop} {N : Nat} {xs : Nat → Int32} (hA0 : A 0 = some (N, xs)) (hN : N ≤ 4000) {M : jm} {L L2 S i : Int} (cv : CV M L S) (rv : RV M L2 S) (rd : RDA M M) (hS : 0 ≤ S ∧ S ≤ 900000) (hL : 0 ≤ L ∧ L ≤ 1900000000) (hL2 : 0 ≤ L2 ∧ L2 ≤ 1900000000) (hi : 0 ≤ i ∧ i + 6 ≤ N) (k : ∀ (M' : jm) (S' : Int), S ≤ S' → S' ≤ S + 1000 → CV M' (L + 1000000) S' → RV M' (L2 + 2689623) S' → RDA M' M' → jr A 364 xm_law 1328 [(3, .int (Int32.ofInt (i))), (2, .ref (598)), (1, .ref (0)), (0, .ref (1000000))] [] M' Q) : jr A 364 xm_law 1055 [(3, .int (Int32.ofInt (i))), (2, .ref (598)), (1, .ref (0)), (0, .ref (1000000))] [] M Q := by
  have hC_M := cv.1
  have hne := cv.2.2.2.1
  have hz4 := cv.2.2.2.2.1
  have hS8 := cv.2.2.2.2.2
  refine jr.aload_n rfl rfl ?_
  refine jr.aload_n rfl rfl ?_
  refine jr.iload_n rfl rfl ?_
  refine jr.iconst rfl ?_
  refine jr.iadd rfl ?_
  obtain ⟨v1, e1⟩ : ∃ z_, (xs (i + 1).toNat).toInt = z_ := ⟨_, rfl⟩
  have b1 : -2147483648 ≤ v1 ∧ v1 ≤ 2147483647 := by rw [← e1]; exact jb_any _
  refine jr.ials (i := (i + 1)) v1 rfl (by decide) hA0 (by omega) (by omega) (by omega) (by rw [← e1]; exact (Int32.ofInt_toInt _).symm) ?_
  refine jr_v rfl rfl (Or.inl rfl) rfl rfl (by decide) rfl ⟨rfl, Nat.le_of_ble_eq_true rfl, Nat.le_of_ble_eq_true rfl⟩ rfl (jc.deep (c_PacketWall_counter cv.1 (by omega) (fun r2 z2  => ?_)) (by decide))
  refine jr.pop2 rfl ?_
  refine jr.aload_n rfl rfl ?_
  refine jr.aload_n rfl rfl ?_
  refine jr.iload_n rfl rfl ?_
  refine jr.iconst rfl ?_
  refine jr.iadd rfl ?_
  refine jr.ials (i := (i + 1)) v1 rfl (by decide) hA0 (by omega) (by omega) (by omega) (by rw [← e1]; exact (Int32.ofInt_toInt _).symm) ?_
  refine jr_v rfl rfl (Or.inl rfl) rfl rfl (by decide) rfl ⟨rfl, Nat.le_of_ble_eq_true rfl, Nat.le_of_ble_eq_true rfl⟩ rfl (jc.deep (r_counter_x rv.1 rv.2.1 rv.2.2.1 (by omega) (fun r3 M3 hI hH hF z3 hf => ?_)) (by decide))
  have cv2 : CV M3 L S := cv.z (fun a i ha => hf a i (by omega))
  have rv2 : RV M3 L2 S := ⟨hI, hH, hF, (RG1.fr rv.2.2.2.1 (fun a i ha => hf a i (rG_ne ha rfl))), by rw [show M3 650 = M 650 from funext (fun i => hf 650 i (by decide))]; exact rv.2.2.2.2.1, (MC.fr rv.2.2.2.2.2.1 (fun i => hf 652 i (by decide)) (fun i => hf 653 i (by decide)) (fun i => hf 654 i (by decide)) (fun i => hf 655 i (by decide)) (hf 598 82 (by decide))), (AS.fr rv.2.2.2.2.2.2.1 (fun i => hf 685 i (by decide)) (hf 598 112 (by decide))), ((hf 598 2 (by decide)).trans rv.2.2.2.2.2.2.2.1), X7.fr rv.2.2.2.2.2.2.2.2 (fun i => hf 647 i (by decide))⟩
  have rd2 : RDA M3 M3 := (oq_counter rd rv.2.2.2.1 rv.1  hf ).c (fun a i ha => hf a i (by omega))
  refine jr.pop2 rfl ?_
  refine jr.goto rfl rfl ?_
  exact k _ _ (Int.le_refl _) (by omega) (cv2.le (by omega)) (rv2.le (by omega)) rd2
