/-! ===== the calls of the law, 0 ===== -/
theorem lop_0 {A : Nat → Option (Nat × (Nat → Int32))} [HA A] {Q : Option Value → jm → Prop} {N : Nat} {xs : Nat → Int32} (hA0 : A 0 = some (N, xs)) (hN : N ≤ 4000) {M : jm} {L L2 S i : Int} (cv : CV M L S) (rv : RV M L2 S) (hS : 0 ≤ S ∧ S ≤ 900000) (hL : 0 ≤ L ∧ L ≤ 1900000000) (hL2 : 0 ≤ L2 ∧ L2 ≤ 1900000000) (hi : 0 ≤ i ∧ i + 6 ≤ N) (k : ∀ (M' : jm) (S' : Int), S ≤ S' → S' ≤ S + 1000 → CV M' (L + 1000000) S' → RV M' (L2 + 2689623) S' → jr A 364 xm_law 1328 [(3, .int (Int32.ofInt (i))), (2, .ref (598)), (1, .ref (0)), (0, .ref (1000000))] [] M' Q) : jr A 364 xm_law 208 [(3, .int (Int32.ofInt (i))), (2, .ref (598)), (1, .ref (0)), (0, .ref (1000000))] [] M Q := by
  have hC_M := cv.1
  have ht_M : FR W_all M M := FR.rfl _ _
  have hne := cv.2.2.2.2.1
  have hz4 := cv.2.2.2.2.2.1
  have hS8 := cv.2.2.2.2.2.2
  refine jr.aload_n rfl rfl ?_
  refine jr.aload_n rfl rfl ?_
  refine jr.iload_n rfl rfl ?_
  refine jr.iconst rfl ?_
  refine jr.iadd rfl ?_
  obtain ⟨v1, e1⟩ : ∃ z_, (xs (i + 1).toNat).toInt = z_ := ⟨_, rfl⟩
  have b1 : -2147483648 ≤ v1 ∧ v1 ≤ 2147483647 := by rw [← e1]; exact jb_any _
  refine jr.ials (i := (i + 1)) v1 rfl (by decide) hA0 (by omega) (by omega) (by omega) (by rw [← e1]; exact (Int32.ofInt_toInt _).symm) ?_
  refine jr.aload_n rfl rfl ?_
  refine jr.iload_n rfl rfl ?_
  refine jr.iconst rfl ?_
  refine jr.iadd rfl ?_
  obtain ⟨v2, e2⟩ : ∃ z_, (xs (i + 2).toNat).toInt = z_ := ⟨_, rfl⟩
  have b2 : -2147483648 ≤ v2 ∧ v2 ≤ 2147483647 := by rw [← e2]; exact jb_any _
  refine jr.ials (i := (i + 2)) v2 rfl (by decide) hA0 (by omega) (by omega) (by omega) (by rw [← e2]; exact (Int32.ofInt_toInt _).symm) ?_
  refine jr.aload_n rfl rfl ?_
  refine jr.iload_n rfl rfl ?_
  refine jr.iconst rfl ?_
  refine jr.iadd rfl ?_
  obtain ⟨v3, e3⟩ : ∃ z_, (xs (i + 3).toNat).toInt = z_ := ⟨_, rfl⟩
  have b3 : -2147483648 ≤ v3 ∧ v3 ≤ 2147483647 := by rw [← e3]; exact jb_any _
  refine jr.ials (i := (i + 3)) v3 rfl (by decide) hA0 (by omega) (by omega) (by omega) (by rw [← e3]; exact (Int32.ofInt_toInt _).symm) ?_
  refine jr.aload_n rfl rfl ?_
  refine jr.iload_n rfl rfl ?_
  refine jr.iconst rfl ?_
  refine jr.iadd rfl ?_
  obtain ⟨v4, e4⟩ : ∃ z_, (xs (i + 4).toNat).toInt = z_ := ⟨_, rfl⟩
  have b4 : -2147483648 ≤ v4 ∧ v4 ≤ 2147483647 := by rw [← e4]; exact jb_any _
  refine jr.ials (i := (i + 4)) v4 rfl (by decide) hA0 (by omega) (by omega) (by omega) (by rw [← e4]; exact (Int32.ofInt_toInt _).symm) ?_
  refine jr.aload_n rfl rfl ?_
  refine jr.iload_n rfl rfl ?_
  refine jr.iconst rfl ?_
  refine jr.iadd rfl ?_
  obtain ⟨v5, e5⟩ : ∃ z_, (xs (i + 5).toNat).toInt = z_ := ⟨_, rfl⟩
  have b5 : -2147483648 ≤ v5 ∧ v5 ≤ 2147483647 := by rw [← e5]; exact jb_any _
  refine jr.ials (i := (i + 5)) v5 rfl (by decide) hA0 (by omega) (by omega) (by omega) (by rw [← e5]; exact (Int32.ofInt_toInt _).symm) ?_
  refine jr_v rfl rfl (Or.inl rfl) rfl rfl (by decide) rfl ⟨rfl, Nat.le_of_ble_eq_true rfl, Nat.le_of_ble_eq_true rfl⟩ rfl (jc.deep (c_PacketWall_feed hC_M (FR.rfl _ M) (by omega) (by omega) (by omega) (by omega) (by omega) (fun r6 M6 hC_M6 hf_M6 z6  => ?_)) (by decide))
  have ht_M6 : FR W_all M M6 := FR.t ht_M hf_M6 (kw_sub rfl)
  have cv1 : CV M6 L S := ⟨hC_M6, (cv.2.1.fr hf_M6 rfl), (cv.2.2.1.fr hf_M6 rfl), (cv.2.2.2.1.fr cv.1 hf_M6 rfl), (by rw [hf_M6.g (show kd 413 = 44 from rfl) rfl, hf_M6.g (show kd 421 = 22 from rfl) rfl]; exact cv.2.2.2.2.1), ((hf_M6.g (show kd 421 = 22 from rfl) rfl).trans cv.2.2.2.2.2.1), ((hf_M6.g (show kd 0 = 35 from rfl) rfl).trans cv.2.2.2.2.2.2)⟩
  have rv1 : RV M6 L2 S := RV.tr rv (fun a i ha => hf_M6.g (kd_hi ha) rfl)
  refine jr.pop rfl rfl ?_
  refine jr.aload_n rfl rfl ?_
  refine jr.aload_n rfl rfl ?_
  refine jr.iload_n rfl rfl ?_
  refine jr.iconst rfl ?_
  refine jr.iadd rfl ?_
  obtain ⟨v7, e7⟩ : ∃ z_, (xs (i + 1).toNat).toInt = z_ := ⟨_, rfl⟩
  have b7 : -2147483648 ≤ v7 ∧ v7 ≤ 2147483647 := by rw [← e7]; exact jb_any _
  refine jr.ials (i := (i + 1)) v7 rfl (by decide) hA0 (by omega) (by omega) (by omega) (by rw [← e7]; exact (Int32.ofInt_toInt _).symm) ?_
  refine jr.aload_n rfl rfl ?_
  refine jr.iload_n rfl rfl ?_
  refine jr.iconst rfl ?_
  refine jr.iadd rfl ?_
  obtain ⟨v8, e8⟩ : ∃ z_, (xs (i + 2).toNat).toInt = z_ := ⟨_, rfl⟩
  have b8 : -2147483648 ≤ v8 ∧ v8 ≤ 2147483647 := by rw [← e8]; exact jb_any _
  refine jr.ials (i := (i + 2)) v8 rfl (by decide) hA0 (by omega) (by omega) (by omega) (by rw [← e8]; exact (Int32.ofInt_toInt _).symm) ?_
  refine jr.aload_n rfl rfl ?_
  refine jr.iload_n rfl rfl ?_
  refine jr.iconst rfl ?_
  refine jr.iadd rfl ?_
  obtain ⟨v9, e9⟩ : ∃ z_, (xs (i + 3).toNat).toInt = z_ := ⟨_, rfl⟩
  have b9 : -2147483648 ≤ v9 ∧ v9 ≤ 2147483647 := by rw [← e9]; exact jb_any _
  refine jr.ials (i := (i + 3)) v9 rfl (by decide) hA0 (by omega) (by omega) (by omega) (by rw [← e9]; exact (Int32.ofInt_toInt _).symm) ?_
  refine jr.aload_n rfl rfl ?_
  refine jr.iload_n rfl rfl ?_
  refine jr.iconst rfl ?_
  refine jr.iadd rfl ?_
  obtain ⟨v10, e10⟩ : ∃ z_, (xs (i + 4).toNat).toInt = z_ := ⟨_, rfl⟩
  have b10 : -2147483648 ≤ v10 ∧ v10 ≤ 2147483647 := by rw [← e10]; exact jb_any _
  refine jr.ials (i := (i + 4)) v10 rfl (by decide) hA0 (by omega) (by omega) (by omega) (by rw [← e10]; exact (Int32.ofInt_toInt _).symm) ?_
  refine jr.aload_n rfl rfl ?_
  refine jr.iload_n rfl rfl ?_
  refine jr.iconst rfl ?_
  refine jr.iadd rfl ?_
  obtain ⟨v11, e11⟩ : ∃ z_, (xs (i + 5).toNat).toInt = z_ := ⟨_, rfl⟩
  have b11 : -2147483648 ≤ v11 ∧ v11 ≤ 2147483647 := by rw [← e11]; exact jb_any _
  refine jr.ials (i := (i + 5)) v11 rfl (by decide) hA0 (by omega) (by omega) (by omega) (by rw [← e11]; exact (Int32.ofInt_toInt _).symm) ?_
  refine jr_v rfl rfl (Or.inl rfl) rfl rfl (by decide) rfl ⟨rfl, Nat.le_of_ble_eq_true rfl, Nat.le_of_ble_eq_true rfl⟩ rfl (jc.deep (r_feed rv1.1 rv1.2.1 rv1.2.2.1 (Kp.rfl _) (by omega) (by omega) (by omega) (by omega) (by omega) (fun r12 M12 hI hH hF hk z12 => ?_)) (by decide))
  have cv2 : CV M12 L S := cv1.kp hk
  have rv2 : RV M12 L2 S := rv1.kp hI hH hF hk
  refine jr.pop rfl rfl ?_
  refine jr.goto rfl rfl ?_
  exact k _ _ (Int.le_refl _) (by omega) (cv2.le (by omega)) (rv2.le (by omega))
theorem lop_1 {A : Nat → Option (Nat × (Nat → Int32))} [HA A] {Q : Option Value → jm → Prop} {N : Nat} {xs : Nat → Int32} (hA0 : A 0 = some (N, xs)) (hN : N ≤ 4000) {M : jm} {L L2 S i : Int} (cv : CV M L S) (rv : RV M L2 S) (hS : 0 ≤ S ∧ S ≤ 900000) (hL : 0 ≤ L ∧ L ≤ 1900000000) (hL2 : 0 ≤ L2 ∧ L2 ≤ 1900000000) (hi : 0 ≤ i ∧ i + 6 ≤ N) (k : ∀ (M' : jm) (S' : Int), S ≤ S' → S' ≤ S + 1000 → CV M' (L + 1000000) S' → RV M' (L2 + 2689623) S' → jr A 364 xm_law 1328 [(3, .int (Int32.ofInt (i))), (2, .ref (598)), (1, .ref (0)), (0, .ref (1000000))] [] M' Q) : jr A 364 xm_law 271 [(3, .int (Int32.ofInt (i))), (2, .ref (598)), (1, .ref (0)), (0, .ref (1000000))] [] M Q := by
  have hC_M := cv.1
  have ht_M : FR W_all M M := FR.rfl _ _
  have hne := cv.2.2.2.2.1
  have hz4 := cv.2.2.2.2.2.1
  have hS8 := cv.2.2.2.2.2.2
  refine jr.aload_n rfl rfl ?_
  refine jr.aload_n rfl rfl ?_
  refine jr.iload_n rfl rfl ?_
  refine jr.iconst rfl ?_
  refine jr.iadd rfl ?_
  obtain ⟨v1, e1⟩ : ∃ z_, (xs (i + 1).toNat).toInt = z_ := ⟨_, rfl⟩
  have b1 : -2147483648 ≤ v1 ∧ v1 ≤ 2147483647 := by rw [← e1]; exact jb_any _
  refine jr.ials (i := (i + 1)) v1 rfl (by decide) hA0 (by omega) (by omega) (by omega) (by rw [← e1]; exact (Int32.ofInt_toInt _).symm) ?_
  refine jr_v rfl rfl (Or.inl rfl) rfl rfl (by decide) rfl ⟨rfl, Nat.le_of_ble_eq_true rfl, Nat.le_of_ble_eq_true rfl⟩ rfl (jc.deep (c_PacketWall_end hC_M (FR.rfl _ M) (by omega) (fun r2 M2 hC_M2 hf_M2 z2  => ?_)) (by decide))
  have ht_M2 : FR W_all M M2 := FR.t ht_M hf_M2 (kw_sub rfl)
  have cv1 : CV M2 L S := ⟨hC_M2, (cv.2.1.fr hf_M2 rfl), (cv.2.2.1.fr hf_M2 rfl), (cv.2.2.2.1.fr cv.1 hf_M2 rfl), (by rw [hf_M2.g (show kd 413 = 44 from rfl) rfl, hf_M2.g (show kd 421 = 22 from rfl) rfl]; exact cv.2.2.2.2.1), ((hf_M2.g (show kd 421 = 22 from rfl) rfl).trans cv.2.2.2.2.2.1), ((hf_M2.g (show kd 0 = 35 from rfl) rfl).trans cv.2.2.2.2.2.2)⟩
  have rv1 : RV M2 L2 S := RV.tr rv (fun a i ha => hf_M2.g (kd_hi ha) rfl)
  refine jr.pop rfl rfl ?_
  refine jr.aload_n rfl rfl ?_
  refine jr.aload_n rfl rfl ?_
  refine jr.iload_n rfl rfl ?_
  refine jr.iconst rfl ?_
  refine jr.iadd rfl ?_
  obtain ⟨v3, e3⟩ : ∃ z_, (xs (i + 1).toNat).toInt = z_ := ⟨_, rfl⟩
  have b3 : -2147483648 ≤ v3 ∧ v3 ≤ 2147483647 := by rw [← e3]; exact jb_any _
  refine jr.ials (i := (i + 1)) v3 rfl (by decide) hA0 (by omega) (by omega) (by omega) (by rw [← e3]; exact (Int32.ofInt_toInt _).symm) ?_
  refine jr_v rfl rfl (Or.inl rfl) rfl rfl (by decide) rfl ⟨rfl, Nat.le_of_ble_eq_true rfl, Nat.le_of_ble_eq_true rfl⟩ rfl (jc.deep (r_end rv1.1 rv1.2.1 rv1.2.2.1 (Kp.rfl _) (by omega) (fun r4 M4 hI hH hF hk z4 => ?_)) (by decide))
  have cv2 : CV M4 L S := cv1.kp hk
  have rv2 : RV M4 L2 S := rv1.kp hI hH hF hk
  refine jr.pop rfl rfl ?_
  refine jr.goto rfl rfl ?_
  exact k _ _ (Int.le_refl _) (by omega) (cv2.le (by omega)) (rv2.le (by omega))
theorem lop_2 {A : Nat → Option (Nat × (Nat → Int32))} [HA A] {Q : Option Value → jm → Prop} {N : Nat} {xs : Nat → Int32} (hA0 : A 0 = some (N, xs)) (hN : N ≤ 4000) {M : jm} {L L2 S i : Int} (cv : CV M L S) (rv : RV M L2 S) (hS : 0 ≤ S ∧ S ≤ 900000) (hL : 0 ≤ L ∧ L ≤ 1900000000) (hL2 : 0 ≤ L2 ∧ L2 ≤ 1900000000) (hi : 0 ≤ i ∧ i + 6 ≤ N) (k : ∀ (M' : jm) (S' : Int), S ≤ S' → S' ≤ S + 1000 → CV M' (L + 1000000) S' → RV M' (L2 + 2689623) S' → jr A 364 xm_law 1328 [(3, .int (Int32.ofInt (i))), (2, .ref (598)), (1, .ref (0)), (0, .ref (1000000))] [] M' Q) : jr A 364 xm_law 294 [(3, .int (Int32.ofInt (i))), (2, .ref (598)), (1, .ref (0)), (0, .ref (1000000))] [] M Q := by
  have hC_M := cv.1
  have ht_M : FR W_all M M := FR.rfl _ _
  have hne := cv.2.2.2.2.1
  have hz4 := cv.2.2.2.2.2.1
  have hS8 := cv.2.2.2.2.2.2
  refine jr.aload_n rfl rfl ?_
  refine jr.aload_n rfl rfl ?_
  refine jr.iload_n rfl rfl ?_
  refine jr.iconst rfl ?_
  refine jr.iadd rfl ?_
  obtain ⟨v1, e1⟩ : ∃ z_, (xs (i + 1).toNat).toInt = z_ := ⟨_, rfl⟩
  have b1 : -2147483648 ≤ v1 ∧ v1 ≤ 2147483647 := by rw [← e1]; exact jb_any _
  refine jr.ials (i := (i + 1)) v1 rfl (by decide) hA0 (by omega) (by omega) (by omega) (by rw [← e1]; exact (Int32.ofInt_toInt _).symm) ?_
  refine jr_v rfl rfl (Or.inl rfl) rfl rfl (by decide) rfl ⟨rfl, Nat.le_of_ble_eq_true rfl, Nat.le_of_ble_eq_true rfl⟩ rfl (jc.deep (c_PacketWall_packet hC_M (FR.rfl _ M) (by omega) (fun r2 M2 hC_M2 hf_M2 z2  => ?_)) (by decide))
  have ht_M2 : FR W_all M M2 := FR.t ht_M hf_M2 (kw_sub rfl)
  have cv1 : CV M2 L S := ⟨hC_M2, (cv.2.1.fr hf_M2 rfl), (cv.2.2.1.fr hf_M2 rfl), (cv.2.2.2.1.fr cv.1 hf_M2 rfl), (by rw [hf_M2.g (show kd 413 = 44 from rfl) rfl, hf_M2.g (show kd 421 = 22 from rfl) rfl]; exact cv.2.2.2.2.1), ((hf_M2.g (show kd 421 = 22 from rfl) rfl).trans cv.2.2.2.2.2.1), ((hf_M2.g (show kd 0 = 35 from rfl) rfl).trans cv.2.2.2.2.2.2)⟩
  have rv1 : RV M2 L2 S := RV.tr rv (fun a i ha => hf_M2.g (kd_hi ha) rfl)
  refine jr.pop rfl rfl ?_
  refine jr.aload_n rfl rfl ?_
  refine jr.aload_n rfl rfl ?_
  refine jr.iload_n rfl rfl ?_
  refine jr.iconst rfl ?_
  refine jr.iadd rfl ?_
  obtain ⟨v3, e3⟩ : ∃ z_, (xs (i + 1).toNat).toInt = z_ := ⟨_, rfl⟩
  have b3 : -2147483648 ≤ v3 ∧ v3 ≤ 2147483647 := by rw [← e3]; exact jb_any _
  refine jr.ials (i := (i + 1)) v3 rfl (by decide) hA0 (by omega) (by omega) (by omega) (by rw [← e3]; exact (Int32.ofInt_toInt _).symm) ?_
  refine jr_v rfl rfl (Or.inl rfl) rfl rfl (by decide) rfl ⟨rfl, Nat.le_of_ble_eq_true rfl, Nat.le_of_ble_eq_true rfl⟩ rfl (jc.deep (r_packet rv1.1 rv1.2.1 rv1.2.2.1 (Kp.rfl _) (by omega) (fun r4 M4 hI hH hF hk z4 => ?_)) (by decide))
  have cv2 : CV M4 L S := cv1.kp hk
  have rv2 : RV M4 L2 S := rv1.kp hI hH hF hk
  refine jr.pop rfl rfl ?_
  refine jr.goto rfl rfl ?_
  exact k _ _ (Int.le_refl _) (by omega) (cv2.le (by omega)) (rv2.le (by omega))
theorem lop_3 {A : Nat → Option (Nat × (Nat → Int32))} [HA A] {Q : Option Value → jm → Prop} {N : Nat} {xs : Nat → Int32} (hA0 : A 0 = some (N, xs)) (hN : N ≤ 4000) {M : jm} {L L2 S i : Int} (cv : CV M L S) (rv : RV M L2 S) (hS : 0 ≤ S ∧ S ≤ 900000) (hL : 0 ≤ L ∧ L ≤ 1900000000) (hL2 : 0 ≤ L2 ∧ L2 ≤ 1900000000) (hi : 0 ≤ i ∧ i + 6 ≤ N) (k : ∀ (M' : jm) (S' : Int), S ≤ S' → S' ≤ S + 1000 → CV M' (L + 1000000) S' → RV M' (L2 + 2689623) S' → jr A 364 xm_law 1328 [(3, .int (Int32.ofInt (i))), (2, .ref (598)), (1, .ref (0)), (0, .ref (1000000))] [] M' Q) : jr A 364 xm_law 317 [(3, .int (Int32.ofInt (i))), (2, .ref (598)), (1, .ref (0)), (0, .ref (1000000))] [] M Q := by
  have hC_M := cv.1
  have ht_M : FR W_all M M := FR.rfl _ _
  have hne := cv.2.2.2.2.1
  have hz4 := cv.2.2.2.2.2.1
  have hS8 := cv.2.2.2.2.2.2
  refine jr.aload_n rfl rfl ?_
  refine jr.aload_n rfl rfl ?_
  refine jr.iload_n rfl rfl ?_
  refine jr.iconst rfl ?_
  refine jr.iadd rfl ?_
  obtain ⟨v1, e1⟩ : ∃ z_, (xs (i + 1).toNat).toInt = z_ := ⟨_, rfl⟩
  have b1 : -2147483648 ≤ v1 ∧ v1 ≤ 2147483647 := by rw [← e1]; exact jb_any _
  refine jr.ials (i := (i + 1)) v1 rfl (by decide) hA0 (by omega) (by omega) (by omega) (by rw [← e1]; exact (Int32.ofInt_toInt _).symm) ?_
  refine jr_v rfl rfl (Or.inl rfl) rfl rfl (by decide) rfl ⟨rfl, Nat.le_of_ble_eq_true rfl, Nat.le_of_ble_eq_true rfl⟩ rfl (jc.deep (c_PacketWall_drop hC_M (FR.rfl _ M) (by omega) (fun r2 M2 hC_M2 hf_M2 z2  => ?_)) (by decide))
  have ht_M2 : FR W_all M M2 := FR.t ht_M hf_M2 (kw_sub rfl)
  have cv1 : CV M2 L S := ⟨hC_M2, (cv.2.1.fr hf_M2 rfl), (cv.2.2.1.fr hf_M2 rfl), (cv.2.2.2.1.fr cv.1 hf_M2 rfl), (by rw [hf_M2.g (show kd 413 = 44 from rfl) rfl, hf_M2.g (show kd 421 = 22 from rfl) rfl]; exact cv.2.2.2.2.1), ((hf_M2.g (show kd 421 = 22 from rfl) rfl).trans cv.2.2.2.2.2.1), ((hf_M2.g (show kd 0 = 35 from rfl) rfl).trans cv.2.2.2.2.2.2)⟩
  have rv1 : RV M2 L2 S := RV.tr rv (fun a i ha => hf_M2.g (kd_hi ha) rfl)
  refine jr.pop rfl rfl ?_
  refine jr.aload_n rfl rfl ?_
  refine jr.aload_n rfl rfl ?_
  refine jr.iload_n rfl rfl ?_
  refine jr.iconst rfl ?_
  refine jr.iadd rfl ?_
  obtain ⟨v3, e3⟩ : ∃ z_, (xs (i + 1).toNat).toInt = z_ := ⟨_, rfl⟩
  have b3 : -2147483648 ≤ v3 ∧ v3 ≤ 2147483647 := by rw [← e3]; exact jb_any _
  refine jr.ials (i := (i + 1)) v3 rfl (by decide) hA0 (by omega) (by omega) (by omega) (by rw [← e3]; exact (Int32.ofInt_toInt _).symm) ?_
  refine jr_v rfl rfl (Or.inl rfl) rfl rfl (by decide) rfl ⟨rfl, Nat.le_of_ble_eq_true rfl, Nat.le_of_ble_eq_true rfl⟩ rfl (jc.deep (r_drop rv1.1 rv1.2.1 rv1.2.2.1 (Kp.rfl _) (by omega) (fun r4 M4 hI hH hF hk z4 => ?_)) (by decide))
  have cv2 : CV M4 L S := cv1.kp hk
  have rv2 : RV M4 L2 S := rv1.kp hI hH hF hk
  refine jr.pop rfl rfl ?_
  refine jr.goto rfl rfl ?_
  exact k _ _ (Int.le_refl _) (by omega) (cv2.le (by omega)) (rv2.le (by omega))
theorem lop_4 {A : Nat → Option (Nat × (Nat → Int32))} [HA A] {Q : Option Value → jm → Prop} {N : Nat} {xs : Nat → Int32} (hA0 : A 0 = some (N, xs)) (hN : N ≤ 4000) {M : jm} {L L2 S i : Int} (cv : CV M L S) (rv : RV M L2 S) (hS : 0 ≤ S ∧ S ≤ 900000) (hL : 0 ≤ L ∧ L ≤ 1900000000) (hL2 : 0 ≤ L2 ∧ L2 ≤ 1900000000) (hi : 0 ≤ i ∧ i + 6 ≤ N) (k : ∀ (M' : jm) (S' : Int), S ≤ S' → S' ≤ S + 1000 → CV M' (L + 1000000) S' → RV M' (L2 + 2689623) S' → jr A 364 xm_law 1328 [(3, .int (Int32.ofInt (i))), (2, .ref (598)), (1, .ref (0)), (0, .ref (1000000))] [] M' Q) : jr A 364 xm_law 340 [(3, .int (Int32.ofInt (i))), (2, .ref (598)), (1, .ref (0)), (0, .ref (1000000))] [] M Q := by
  have hC_M := cv.1
  have ht_M : FR W_all M M := FR.rfl _ _
  have hne := cv.2.2.2.2.1
  have hz4 := cv.2.2.2.2.2.1
  have hS8 := cv.2.2.2.2.2.2
  refine jr.aload_n rfl rfl ?_
  refine jr.aload_n rfl rfl ?_
  refine jr.iload_n rfl rfl ?_
  refine jr.iconst rfl ?_
  refine jr.iadd rfl ?_
  obtain ⟨v1, e1⟩ : ∃ z_, (xs (i + 1).toNat).toInt = z_ := ⟨_, rfl⟩
  have b1 : -2147483648 ≤ v1 ∧ v1 ≤ 2147483647 := by rw [← e1]; exact jb_any _
  refine jr.ials (i := (i + 1)) v1 rfl (by decide) hA0 (by omega) (by omega) (by omega) (by rw [← e1]; exact (Int32.ofInt_toInt _).symm) ?_
  refine jr.aload_n rfl rfl ?_
  refine jr.iload_n rfl rfl ?_
  refine jr.iconst rfl ?_
  refine jr.iadd rfl ?_
  obtain ⟨v2, e2⟩ : ∃ z_, (xs (i + 2).toNat).toInt = z_ := ⟨_, rfl⟩
  have b2 : -2147483648 ≤ v2 ∧ v2 ≤ 2147483647 := by rw [← e2]; exact jb_any _
  refine jr.ials (i := (i + 2)) v2 rfl (by decide) hA0 (by omega) (by omega) (by omega) (by rw [← e2]; exact (Int32.ofInt_toInt _).symm) ?_
  refine jr_v rfl rfl (Or.inl rfl) rfl rfl (by decide) rfl ⟨rfl, Nat.le_of_ble_eq_true rfl, Nat.le_of_ble_eq_true rfl⟩ rfl (jc.deep (c_PacketWall_at hC_M (by omega) (by omega) (fun r3 z3  => ?_)) (by decide))
  skip
  refine jr.pop rfl rfl ?_
  refine jr.aload_n rfl rfl ?_
  refine jr.aload_n rfl rfl ?_
  refine jr.iload_n rfl rfl ?_
  refine jr.iconst rfl ?_
  refine jr.iadd rfl ?_
  obtain ⟨v4, e4⟩ : ∃ z_, (xs (i + 1).toNat).toInt = z_ := ⟨_, rfl⟩
  have b4 : -2147483648 ≤ v4 ∧ v4 ≤ 2147483647 := by rw [← e4]; exact jb_any _
  refine jr.ials (i := (i + 1)) v4 rfl (by decide) hA0 (by omega) (by omega) (by omega) (by rw [← e4]; exact (Int32.ofInt_toInt _).symm) ?_
  refine jr.aload_n rfl rfl ?_
  refine jr.iload_n rfl rfl ?_
  refine jr.iconst rfl ?_
  refine jr.iadd rfl ?_
  obtain ⟨v5, e5⟩ : ∃ z_, (xs (i + 2).toNat).toInt = z_ := ⟨_, rfl⟩
  have b5 : -2147483648 ≤ v5 ∧ v5 ≤ 2147483647 := by rw [← e5]; exact jb_any _
  refine jr.ials (i := (i + 2)) v5 rfl (by decide) hA0 (by omega) (by omega) (by omega) (by rw [← e5]; exact (Int32.ofInt_toInt _).symm) ?_
  refine jr_v rfl rfl (Or.inl rfl) rfl rfl (by decide) rfl ⟨rfl, Nat.le_of_ble_eq_true rfl, Nat.le_of_ble_eq_true rfl⟩ rfl (jc.deep (r_at rv.1 rv.2.1 rv.2.2.1 (Kp.rfl _) (by omega) (by omega) (fun r6 M6 hI hH hF hk z6 => ?_)) (by decide))
  have cv2 : CV M6 L S := cv.kp hk
  have rv2 : RV M6 L2 S := rv.kp hI hH hF hk
  refine jr.pop rfl rfl ?_
  refine jr.goto rfl rfl ?_
  exact k _ _ (Int.le_refl _) (by omega) (cv2.le (by omega)) (rv2.le (by omega))
theorem lop_5 {A : Nat → Option (Nat × (Nat → Int32))} [HA A] {Q : Option Value → jm → Prop} {N : Nat} {xs : Nat → Int32} (hA0 : A 0 = some (N, xs)) (hN : N ≤ 4000) {M : jm} {L L2 S i : Int} (cv : CV M L S) (rv : RV M L2 S) (hS : 0 ≤ S ∧ S ≤ 900000) (hL : 0 ≤ L ∧ L ≤ 1900000000) (hL2 : 0 ≤ L2 ∧ L2 ≤ 1900000000) (hi : 0 ≤ i ∧ i + 6 ≤ N) (k : ∀ (M' : jm) (S' : Int), S ≤ S' → S' ≤ S + 1000 → CV M' (L + 1000000) S' → RV M' (L2 + 2689623) S' → jr A 364 xm_law 1328 [(3, .int (Int32.ofInt (i))), (2, .ref (598)), (1, .ref (0)), (0, .ref (1000000))] [] M' Q) : jr A 364 xm_law 373 [(3, .int (Int32.ofInt (i))), (2, .ref (598)), (1, .ref (0)), (0, .ref (1000000))] [] M Q := by
  have hC_M := cv.1
  have ht_M : FR W_all M M := FR.rfl _ _
  have hne := cv.2.2.2.2.1
  have hz4 := cv.2.2.2.2.2.1
  have hS8 := cv.2.2.2.2.2.2
  refine jr.aload_n rfl rfl ?_
  refine jr.aload_n rfl rfl ?_
  refine jr.iload_n rfl rfl ?_
  refine jr.iconst rfl ?_
  refine jr.iadd rfl ?_
  obtain ⟨v1, e1⟩ : ∃ z_, (xs (i + 1).toNat).toInt = z_ := ⟨_, rfl⟩
  have b1 : -2147483648 ≤ v1 ∧ v1 ≤ 2147483647 := by rw [← e1]; exact jb_any _
  refine jr.ials (i := (i + 1)) v1 rfl (by decide) hA0 (by omega) (by omega) (by omega) (by rw [← e1]; exact (Int32.ofInt_toInt _).symm) ?_
  refine jr_v rfl rfl (Or.inl rfl) rfl rfl (by decide) rfl ⟨rfl, Nat.le_of_ble_eq_true rfl, Nat.le_of_ble_eq_true rfl⟩ rfl (jc.deep (c_PacketWall_read hC_M (FR.rfl _ M) (by omega) (fun r2 M2 hC_M2 hf_M2 z2  => ?_)) (by decide))
  have ht_M2 : FR W_all M M2 := FR.t ht_M hf_M2 (kw_sub rfl)
  have cv1 : CV M2 L S := ⟨hC_M2, (cv.2.1.fr hf_M2 rfl), (cv.2.2.1.fr hf_M2 rfl), (cv.2.2.2.1.fr cv.1 hf_M2 rfl), (by rw [hf_M2.g (show kd 413 = 44 from rfl) rfl, hf_M2.g (show kd 421 = 22 from rfl) rfl]; exact cv.2.2.2.2.1), ((hf_M2.g (show kd 421 = 22 from rfl) rfl).trans cv.2.2.2.2.2.1), ((hf_M2.g (show kd 0 = 35 from rfl) rfl).trans cv.2.2.2.2.2.2)⟩
  have rv1 : RV M2 L2 S := RV.tr rv (fun a i ha => hf_M2.g (kd_hi ha) rfl)
  refine jr.pop rfl rfl ?_
  refine jr.aload_n rfl rfl ?_
  refine jr.aload_n rfl rfl ?_
  refine jr.iload_n rfl rfl ?_
  refine jr.iconst rfl ?_
  refine jr.iadd rfl ?_
  obtain ⟨v3, e3⟩ : ∃ z_, (xs (i + 1).toNat).toInt = z_ := ⟨_, rfl⟩
  have b3 : -2147483648 ≤ v3 ∧ v3 ≤ 2147483647 := by rw [← e3]; exact jb_any _
  refine jr.ials (i := (i + 1)) v3 rfl (by decide) hA0 (by omega) (by omega) (by omega) (by rw [← e3]; exact (Int32.ofInt_toInt _).symm) ?_
  refine jr_v rfl rfl (Or.inl rfl) rfl rfl (by decide) rfl ⟨rfl, Nat.le_of_ble_eq_true rfl, Nat.le_of_ble_eq_true rfl⟩ rfl (jc.deep (r_read rv1.1 rv1.2.1 rv1.2.2.1 (Kp.rfl _) (by omega) (fun r4 M4 hI hH hF hk z4 => ?_)) (by decide))
  have cv2 : CV M4 L S := cv1.kp hk
  have rv2 : RV M4 L2 S := rv1.kp hI hH hF hk
  refine jr.pop rfl rfl ?_
  refine jr.goto rfl rfl ?_
  exact k _ _ (Int.le_refl _) (by omega) (cv2.le (by omega)) (rv2.le (by omega))
theorem lop_6 {A : Nat → Option (Nat × (Nat → Int32))} [HA A] {Q : Option Value → jm → Prop} {N : Nat} {xs : Nat → Int32} (hA0 : A 0 = some (N, xs)) (hN : N ≤ 4000) {M : jm} {L L2 S i : Int} (cv : CV M L S) (rv : RV M L2 S) (hS : 0 ≤ S ∧ S ≤ 900000) (hL : 0 ≤ L ∧ L ≤ 1900000000) (hL2 : 0 ≤ L2 ∧ L2 ≤ 1900000000) (hi : 0 ≤ i ∧ i + 6 ≤ N) (k : ∀ (M' : jm) (S' : Int), S ≤ S' → S' ≤ S + 1000 → CV M' (L + 1000000) S' → RV M' (L2 + 2689623) S' → jr A 364 xm_law 1328 [(3, .int (Int32.ofInt (i))), (2, .ref (598)), (1, .ref (0)), (0, .ref (1000000))] [] M' Q) : jr A 364 xm_law 396 [(3, .int (Int32.ofInt (i))), (2, .ref (598)), (1, .ref (0)), (0, .ref (1000000))] [] M Q := by
  have hC_M := cv.1
  have ht_M : FR W_all M M := FR.rfl _ _
  have hne := cv.2.2.2.2.1
  have hz4 := cv.2.2.2.2.2.1
  have hS8 := cv.2.2.2.2.2.2
  refine jr.aload_n rfl rfl ?_
  refine jr.aload_n rfl rfl ?_
  refine jr.iload_n rfl rfl ?_
  refine jr.iconst rfl ?_
  refine jr.iadd rfl ?_
  obtain ⟨v1, e1⟩ : ∃ z_, (xs (i + 1).toNat).toInt = z_ := ⟨_, rfl⟩
  have b1 : -2147483648 ≤ v1 ∧ v1 ≤ 2147483647 := by rw [← e1]; exact jb_any _
  refine jr.ials (i := (i + 1)) v1 rfl (by decide) hA0 (by omega) (by omega) (by omega) (by rw [← e1]; exact (Int32.ofInt_toInt _).symm) ?_
  refine jr_v rfl rfl (Or.inl rfl) rfl rfl (by decide) rfl ⟨rfl, Nat.le_of_ble_eq_true rfl, Nat.le_of_ble_eq_true rfl⟩ rfl (jc.deep (c_PacketWall_finding hC_M (by omega) (fun r2 z2  => ?_)) (by decide))
  skip
  refine jr.pop rfl rfl ?_
  refine jr.aload_n rfl rfl ?_
  refine jr.aload_n rfl rfl ?_
  refine jr.iload_n rfl rfl ?_
  refine jr.iconst rfl ?_
  refine jr.iadd rfl ?_
  obtain ⟨v3, e3⟩ : ∃ z_, (xs (i + 1).toNat).toInt = z_ := ⟨_, rfl⟩
  have b3 : -2147483648 ≤ v3 ∧ v3 ≤ 2147483647 := by rw [← e3]; exact jb_any _
  refine jr.ials (i := (i + 1)) v3 rfl (by decide) hA0 (by omega) (by omega) (by omega) (by rw [← e3]; exact (Int32.ofInt_toInt _).symm) ?_
  refine jr_v rfl rfl (Or.inl rfl) rfl rfl (by decide) rfl ⟨rfl, Nat.le_of_ble_eq_true rfl, Nat.le_of_ble_eq_true rfl⟩ rfl (jc.deep (r_finding rv.1 rv.2.1 rv.2.2.1 (Kp.rfl _) (by omega) (fun r4 M4 hI hH hF hk z4 => ?_)) (by decide))
  have cv2 : CV M4 L S := cv.kp hk
  have rv2 : RV M4 L2 S := rv.kp hI hH hF hk
  refine jr.pop rfl rfl ?_
  refine jr.goto rfl rfl ?_
  exact k _ _ (Int.le_refl _) (by omega) (cv2.le (by omega)) (rv2.le (by omega))
theorem lop_7 {A : Nat → Option (Nat × (Nat → Int32))} [HA A] {Q : Option Value → jm → Prop} {N : Nat} {xs : Nat → Int32} (hA0 : A 0 = some (N, xs)) (hN : N ≤ 4000) {M : jm} {L L2 S i : Int} (cv : CV M L S) (rv : RV M L2 S) (hS : 0 ≤ S ∧ S ≤ 900000) (hL : 0 ≤ L ∧ L ≤ 1900000000) (hL2 : 0 ≤ L2 ∧ L2 ≤ 1900000000) (hi : 0 ≤ i ∧ i + 6 ≤ N) (k : ∀ (M' : jm) (S' : Int), S ≤ S' → S' ≤ S + 1000 → CV M' (L + 1000000) S' → RV M' (L2 + 2689623) S' → jr A 364 xm_law 1328 [(3, .int (Int32.ofInt (i))), (2, .ref (598)), (1, .ref (0)), (0, .ref (1000000))] [] M' Q) : jr A 364 xm_law 419 [(3, .int (Int32.ofInt (i))), (2, .ref (598)), (1, .ref (0)), (0, .ref (1000000))] [] M Q := by
  have hC_M := cv.1
  have ht_M : FR W_all M M := FR.rfl _ _
  have hne := cv.2.2.2.2.1
  have hz4 := cv.2.2.2.2.2.1
  have hS8 := cv.2.2.2.2.2.2
  refine jr.aload_n rfl rfl ?_
  refine jr.aload_n rfl rfl ?_
  refine jr.iload_n rfl rfl ?_
  refine jr.iconst rfl ?_
  refine jr.iadd rfl ?_
  obtain ⟨v1, e1⟩ : ∃ z_, (xs (i + 1).toNat).toInt = z_ := ⟨_, rfl⟩
  have b1 : -2147483648 ≤ v1 ∧ v1 ≤ 2147483647 := by rw [← e1]; exact jb_any _
  refine jr.ials (i := (i + 1)) v1 rfl (by decide) hA0 (by omega) (by omega) (by omega) (by rw [← e1]; exact (Int32.ofInt_toInt _).symm) ?_
  refine jr.aload_n rfl rfl ?_
  refine jr.iload_n rfl rfl ?_
  refine jr.iconst rfl ?_
  refine jr.iadd rfl ?_
  obtain ⟨v2, e2⟩ : ∃ z_, (xs (i + 2).toNat).toInt = z_ := ⟨_, rfl⟩
  have b2 : -2147483648 ≤ v2 ∧ v2 ≤ 2147483647 := by rw [← e2]; exact jb_any _
  refine jr.ials (i := (i + 2)) v2 rfl (by decide) hA0 (by omega) (by omega) (by omega) (by rw [← e2]; exact (Int32.ofInt_toInt _).symm) ?_
  refine jr_v rfl rfl (Or.inl rfl) rfl rfl (by decide) rfl ⟨rfl, Nat.le_of_ble_eq_true rfl, Nat.le_of_ble_eq_true rfl⟩ rfl (jc.deep (c_PacketWall_kind hC_M (FR.rfl _ M) (by omega) (by omega) (fun r3 M3 hC_M3 hf_M3 z3  => ?_)) (by decide))
  have ht_M3 : FR W_all M M3 := FR.t ht_M hf_M3 (kw_sub rfl)
  have cv1 : CV M3 L S := ⟨hC_M3, (cv.2.1.fr hf_M3 rfl), (cv.2.2.1.fr hf_M3 rfl), (cv.2.2.2.1.fr cv.1 hf_M3 rfl), (by rw [hf_M3.g (show kd 413 = 44 from rfl) rfl, hf_M3.g (show kd 421 = 22 from rfl) rfl]; exact cv.2.2.2.2.1), ((hf_M3.g (show kd 421 = 22 from rfl) rfl).trans cv.2.2.2.2.2.1), ((hf_M3.g (show kd 0 = 35 from rfl) rfl).trans cv.2.2.2.2.2.2)⟩
  have rv1 : RV M3 L2 S := RV.tr rv (fun a i ha => hf_M3.g (kd_hi ha) rfl)
  refine jr.pop rfl rfl ?_
  refine jr.aload_n rfl rfl ?_
  refine jr.aload_n rfl rfl ?_
  refine jr.iload_n rfl rfl ?_
  refine jr.iconst rfl ?_
  refine jr.iadd rfl ?_
  obtain ⟨v4, e4⟩ : ∃ z_, (xs (i + 1).toNat).toInt = z_ := ⟨_, rfl⟩
  have b4 : -2147483648 ≤ v4 ∧ v4 ≤ 2147483647 := by rw [← e4]; exact jb_any _
  refine jr.ials (i := (i + 1)) v4 rfl (by decide) hA0 (by omega) (by omega) (by omega) (by rw [← e4]; exact (Int32.ofInt_toInt _).symm) ?_
  refine jr.aload_n rfl rfl ?_
  refine jr.iload_n rfl rfl ?_
  refine jr.iconst rfl ?_
  refine jr.iadd rfl ?_
  obtain ⟨v5, e5⟩ : ∃ z_, (xs (i + 2).toNat).toInt = z_ := ⟨_, rfl⟩
  have b5 : -2147483648 ≤ v5 ∧ v5 ≤ 2147483647 := by rw [← e5]; exact jb_any _
  refine jr.ials (i := (i + 2)) v5 rfl (by decide) hA0 (by omega) (by omega) (by omega) (by rw [← e5]; exact (Int32.ofInt_toInt _).symm) ?_
  refine jr_v rfl rfl (Or.inl rfl) rfl rfl (by decide) rfl ⟨rfl, Nat.le_of_ble_eq_true rfl, Nat.le_of_ble_eq_true rfl⟩ rfl (jc.deep (r_kind rv1.1 rv1.2.1 rv1.2.2.1 (Kp.rfl _) (by omega) (by omega) (fun r6 M6 hI hH hF hk z6 => ?_)) (by decide))
  have cv2 : CV M6 L S := cv1.kp hk
  have rv2 : RV M6 L2 S := rv1.kp hI hH hF hk
  refine jr.pop rfl rfl ?_
  refine jr.goto rfl rfl ?_
  exact k _ _ (Int.le_refl _) (by omega) (cv2.le (by omega)) (rv2.le (by omega))
theorem lop_8 {A : Nat → Option (Nat × (Nat → Int32))} [HA A] {Q : Option Value → jm → Prop} {N : Nat} {xs : Nat → Int32} (hA0 : A 0 = some (N, xs)) (hN : N ≤ 4000) {M : jm} {L L2 S i : Int} (cv : CV M L S) (rv : RV M L2 S) (hS : 0 ≤ S ∧ S ≤ 900000) (hL : 0 ≤ L ∧ L ≤ 1900000000) (hL2 : 0 ≤ L2 ∧ L2 ≤ 1900000000) (hi : 0 ≤ i ∧ i + 6 ≤ N) (k : ∀ (M' : jm) (S' : Int), S ≤ S' → S' ≤ S + 1000 → CV M' (L + 1000000) S' → RV M' (L2 + 2689623) S' → jr A 364 xm_law 1328 [(3, .int (Int32.ofInt (i))), (2, .ref (598)), (1, .ref (0)), (0, .ref (1000000))] [] M' Q) : jr A 364 xm_law 452 [(3, .int (Int32.ofInt (i))), (2, .ref (598)), (1, .ref (0)), (0, .ref (1000000))] [] M Q := by
  have hC_M := cv.1
  have ht_M : FR W_all M M := FR.rfl _ _
  have hne := cv.2.2.2.2.1
  have hz4 := cv.2.2.2.2.2.1
  have hS8 := cv.2.2.2.2.2.2
  refine jr.aload_n rfl rfl ?_
  refine jr.aload_n rfl rfl ?_
  refine jr.iload_n rfl rfl ?_
  refine jr.iconst rfl ?_
  refine jr.iadd rfl ?_
  obtain ⟨v1, e1⟩ : ∃ z_, (xs (i + 1).toNat).toInt = z_ := ⟨_, rfl⟩
  have b1 : -2147483648 ≤ v1 ∧ v1 ≤ 2147483647 := by rw [← e1]; exact jb_any _
  refine jr.ials (i := (i + 1)) v1 rfl (by decide) hA0 (by omega) (by omega) (by omega) (by rw [← e1]; exact (Int32.ofInt_toInt _).symm) ?_
  refine jr.aload_n rfl rfl ?_
  refine jr.iload_n rfl rfl ?_
  refine jr.iconst rfl ?_
  refine jr.iadd rfl ?_
  obtain ⟨v2, e2⟩ : ∃ z_, (xs (i + 2).toNat).toInt = z_ := ⟨_, rfl⟩
  have b2 : -2147483648 ≤ v2 ∧ v2 ≤ 2147483647 := by rw [← e2]; exact jb_any _
  refine jr.ials (i := (i + 2)) v2 rfl (by decide) hA0 (by omega) (by omega) (by omega) (by rw [← e2]; exact (Int32.ofInt_toInt _).symm) ?_
  refine jr.aload_n rfl rfl ?_
  refine jr.iload_n rfl rfl ?_
  refine jr.iconst rfl ?_
  refine jr.iadd rfl ?_
  obtain ⟨v3, e3⟩ : ∃ z_, (xs (i + 3).toNat).toInt = z_ := ⟨_, rfl⟩
  have b3 : -2147483648 ≤ v3 ∧ v3 ≤ 2147483647 := by rw [← e3]; exact jb_any _
  refine jr.ials (i := (i + 3)) v3 rfl (by decide) hA0 (by omega) (by omega) (by omega) (by rw [← e3]; exact (Int32.ofInt_toInt _).symm) ?_
  refine jr_v rfl rfl (Or.inl rfl) rfl rfl (by decide) rfl ⟨rfl, Nat.le_of_ble_eq_true rfl, Nat.le_of_ble_eq_true rfl⟩ rfl (jc.deep (c_PacketWall_field hC_M (FR.rfl _ M) (by omega) (by omega) (by omega) (fun r4 M4 hC_M4 hf_M4 z4  => ?_)) (by decide))
  have ht_M4 : FR W_all M M4 := FR.t ht_M hf_M4 (kw_sub rfl)
  have cv1 : CV M4 L S := ⟨hC_M4, (cv.2.1.fr hf_M4 rfl), (cv.2.2.1.fr hf_M4 rfl), (cv.2.2.2.1.fr cv.1 hf_M4 rfl), (by rw [hf_M4.g (show kd 413 = 44 from rfl) rfl, hf_M4.g (show kd 421 = 22 from rfl) rfl]; exact cv.2.2.2.2.1), ((hf_M4.g (show kd 421 = 22 from rfl) rfl).trans cv.2.2.2.2.2.1), ((hf_M4.g (show kd 0 = 35 from rfl) rfl).trans cv.2.2.2.2.2.2)⟩
  have rv1 : RV M4 L2 S := RV.tr rv (fun a i ha => hf_M4.g (kd_hi ha) rfl)
  refine jr.pop2 rfl ?_
  refine jr.aload_n rfl rfl ?_
  refine jr.aload_n rfl rfl ?_
  refine jr.iload_n rfl rfl ?_
  refine jr.iconst rfl ?_
  refine jr.iadd rfl ?_
  obtain ⟨v5, e5⟩ : ∃ z_, (xs (i + 1).toNat).toInt = z_ := ⟨_, rfl⟩
  have b5 : -2147483648 ≤ v5 ∧ v5 ≤ 2147483647 := by rw [← e5]; exact jb_any _
  refine jr.ials (i := (i + 1)) v5 rfl (by decide) hA0 (by omega) (by omega) (by omega) (by rw [← e5]; exact (Int32.ofInt_toInt _).symm) ?_
  refine jr.aload_n rfl rfl ?_
  refine jr.iload_n rfl rfl ?_
  refine jr.iconst rfl ?_
  refine jr.iadd rfl ?_
  obtain ⟨v6, e6⟩ : ∃ z_, (xs (i + 2).toNat).toInt = z_ := ⟨_, rfl⟩
  have b6 : -2147483648 ≤ v6 ∧ v6 ≤ 2147483647 := by rw [← e6]; exact jb_any _
  refine jr.ials (i := (i + 2)) v6 rfl (by decide) hA0 (by omega) (by omega) (by omega) (by rw [← e6]; exact (Int32.ofInt_toInt _).symm) ?_
  refine jr.aload_n rfl rfl ?_
  refine jr.iload_n rfl rfl ?_
  refine jr.iconst rfl ?_
  refine jr.iadd rfl ?_
  obtain ⟨v7, e7⟩ : ∃ z_, (xs (i + 3).toNat).toInt = z_ := ⟨_, rfl⟩
  have b7 : -2147483648 ≤ v7 ∧ v7 ≤ 2147483647 := by rw [← e7]; exact jb_any _
  refine jr.ials (i := (i + 3)) v7 rfl (by decide) hA0 (by omega) (by omega) (by omega) (by rw [← e7]; exact (Int32.ofInt_toInt _).symm) ?_
  refine jr_v rfl rfl (Or.inl rfl) rfl rfl (by decide) rfl ⟨rfl, Nat.le_of_ble_eq_true rfl, Nat.le_of_ble_eq_true rfl⟩ rfl (jc.deep (r_field rv1.1 rv1.2.1 rv1.2.2.1 (Kp.rfl _) (by omega) (by omega) (by omega) (fun r8 M8 hI hH hF hk z8 => ?_)) (by decide))
  have cv2 : CV M8 L S := cv1.kp hk
  have rv2 : RV M8 L2 S := rv1.kp hI hH hF hk
  refine jr.pop2 rfl ?_
  refine jr.goto rfl rfl ?_
  exact k _ _ (Int.le_refl _) (by omega) (cv2.le (by omega)) (rv2.le (by omega))
theorem lop_9 {A : Nat → Option (Nat × (Nat → Int32))} [HA A] {Q : Option Value → jm → Prop} {N : Nat} {xs : Nat → Int32} (hA0 : A 0 = some (N, xs)) (hN : N ≤ 4000) {M : jm} {L L2 S i : Int} (cv : CV M L S) (rv : RV M L2 S) (hS : 0 ≤ S ∧ S ≤ 900000) (hL : 0 ≤ L ∧ L ≤ 1900000000) (hL2 : 0 ≤ L2 ∧ L2 ≤ 1900000000) (hi : 0 ≤ i ∧ i + 6 ≤ N) (k : ∀ (M' : jm) (S' : Int), S ≤ S' → S' ≤ S + 1000 → CV M' (L + 1000000) S' → RV M' (L2 + 2689623) S' → jr A 364 xm_law 1328 [(3, .int (Int32.ofInt (i))), (2, .ref (598)), (1, .ref (0)), (0, .ref (1000000))] [] M' Q) : jr A 364 xm_law 495 [(3, .int (Int32.ofInt (i))), (2, .ref (598)), (1, .ref (0)), (0, .ref (1000000))] [] M Q := by
  have hC_M := cv.1
  have ht_M : FR W_all M M := FR.rfl _ _
  have hne := cv.2.2.2.2.1
  have hz4 := cv.2.2.2.2.2.1
  have hS8 := cv.2.2.2.2.2.2
  refine jr.aload_n rfl rfl ?_
  refine jr.aload_n rfl rfl ?_
  refine jr.iload_n rfl rfl ?_
  refine jr.iconst rfl ?_
  refine jr.iadd rfl ?_
  obtain ⟨v1, e1⟩ : ∃ z_, (xs (i + 1).toNat).toInt = z_ := ⟨_, rfl⟩
  have b1 : -2147483648 ≤ v1 ∧ v1 ≤ 2147483647 := by rw [← e1]; exact jb_any _
  refine jr.ials (i := (i + 1)) v1 rfl (by decide) hA0 (by omega) (by omega) (by omega) (by rw [← e1]; exact (Int32.ofInt_toInt _).symm) ?_
  refine jr.aload_n rfl rfl ?_
  refine jr.iload_n rfl rfl ?_
  refine jr.iconst rfl ?_
  refine jr.iadd rfl ?_
  obtain ⟨v2, e2⟩ : ∃ z_, (xs (i + 2).toNat).toInt = z_ := ⟨_, rfl⟩
  have b2 : -2147483648 ≤ v2 ∧ v2 ≤ 2147483647 := by rw [← e2]; exact jb_any _
  refine jr.ials (i := (i + 2)) v2 rfl (by decide) hA0 (by omega) (by omega) (by omega) (by rw [← e2]; exact (Int32.ofInt_toInt _).symm) ?_
  refine jr_v rfl rfl (Or.inl rfl) rfl rfl (by decide) rfl ⟨rfl, Nat.le_of_ble_eq_true rfl, Nat.le_of_ble_eq_true rfl⟩ rfl (jc.deep (c_PacketWall_place hC_M (FR.rfl _ M) (by omega) (by omega) (fun r3 M3 hC_M3 hf_M3 z3  => ?_)) (by decide))
  have ht_M3 : FR W_all M M3 := FR.t ht_M hf_M3 (kw_sub rfl)
  have cv1 : CV M3 L S := ⟨hC_M3, (cv.2.1.fr hf_M3 rfl), (cv.2.2.1.fr hf_M3 rfl), (cv.2.2.2.1.fr cv.1 hf_M3 rfl), (by rw [hf_M3.g (show kd 413 = 44 from rfl) rfl, hf_M3.g (show kd 421 = 22 from rfl) rfl]; exact cv.2.2.2.2.1), ((hf_M3.g (show kd 421 = 22 from rfl) rfl).trans cv.2.2.2.2.2.1), ((hf_M3.g (show kd 0 = 35 from rfl) rfl).trans cv.2.2.2.2.2.2)⟩
  have rv1 : RV M3 L2 S := RV.tr rv (fun a i ha => hf_M3.g (kd_hi ha) rfl)
  refine jr.pop rfl rfl ?_
  refine jr.aload_n rfl rfl ?_
  refine jr.aload_n rfl rfl ?_
  refine jr.iload_n rfl rfl ?_
  refine jr.iconst rfl ?_
  refine jr.iadd rfl ?_
  obtain ⟨v4, e4⟩ : ∃ z_, (xs (i + 1).toNat).toInt = z_ := ⟨_, rfl⟩
  have b4 : -2147483648 ≤ v4 ∧ v4 ≤ 2147483647 := by rw [← e4]; exact jb_any _
  refine jr.ials (i := (i + 1)) v4 rfl (by decide) hA0 (by omega) (by omega) (by omega) (by rw [← e4]; exact (Int32.ofInt_toInt _).symm) ?_
  refine jr.aload_n rfl rfl ?_
  refine jr.iload_n rfl rfl ?_
  refine jr.iconst rfl ?_
  refine jr.iadd rfl ?_
  obtain ⟨v5, e5⟩ : ∃ z_, (xs (i + 2).toNat).toInt = z_ := ⟨_, rfl⟩
  have b5 : -2147483648 ≤ v5 ∧ v5 ≤ 2147483647 := by rw [← e5]; exact jb_any _
  refine jr.ials (i := (i + 2)) v5 rfl (by decide) hA0 (by omega) (by omega) (by omega) (by rw [← e5]; exact (Int32.ofInt_toInt _).symm) ?_
  refine jr_v rfl rfl (Or.inl rfl) rfl rfl (by decide) rfl ⟨rfl, Nat.le_of_ble_eq_true rfl, Nat.le_of_ble_eq_true rfl⟩ rfl (jc.deep (r_place rv1.1 rv1.2.1 rv1.2.2.1 (Kp.rfl _) (by omega) (by omega) (fun r6 M6 hI hH hF hk z6 => ?_)) (by decide))
  have cv2 : CV M6 L S := cv1.kp hk
  have rv2 : RV M6 L2 S := rv1.kp hI hH hF hk
  refine jr.pop rfl rfl ?_
  refine jr.goto rfl rfl ?_
  exact k _ _ (Int.le_refl _) (by omega) (cv2.le (by omega)) (rv2.le (by omega))
