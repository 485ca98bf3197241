/-! ===== the calls of the law, 1 ===== -/
theorem lop_10 {A : Nat → Option (Nat × (Nat → Int32))} [HA A] {Q : Option Value → jm → Prop} {N : Nat} {xs : Nat → Int32} (hA0 : A 0 = some (N, xs)) (hN : N ≤ 4000) {M : jm} {L L2 S i : Int} (cv : CV M L S) (rv : RV M L2 S) (hS : 0 ≤ S ∧ S ≤ 900000) (hL : 0 ≤ L ∧ L ≤ 1900000000) (hL2 : 0 ≤ L2 ∧ L2 ≤ 1900000000) (hi : 0 ≤ i ∧ i + 6 ≤ N) (k : ∀ (M' : jm) (S' : Int), S ≤ S' → S' ≤ S + 1000 → CV M' (L + 1000000) S' → RV M' (L2 + 2689623) S' → jr A 364 xm_law 1328 [(3, .int (Int32.ofInt (i))), (2, .ref (598)), (1, .ref (0)), (0, .ref (1000000))] [] M' Q) : jr A 364 xm_law 528 [(3, .int (Int32.ofInt (i))), (2, .ref (598)), (1, .ref (0)), (0, .ref (1000000))] [] M Q := by
  have hC_M := cv.1
  have ht_M : FR W_all M M := FR.rfl _ _
  have hne := cv.2.2.2.2.1
  have hz4 := cv.2.2.2.2.2.1
  have hS8 := cv.2.2.2.2.2.2
  refine jr.aload_n rfl rfl ?_
  refine jr.aload_n rfl rfl ?_
  refine jr.iload_n rfl rfl ?_
  refine jr.iconst rfl ?_
  refine jr.iadd rfl ?_
  obtain ⟨v1, e1⟩ : ∃ z_, (xs (i + 1).toNat).toInt = z_ := ⟨_, rfl⟩
  have b1 : -2147483648 ≤ v1 ∧ v1 ≤ 2147483647 := by rw [← e1]; exact jb_any _
  refine jr.ials (i := (i + 1)) v1 rfl (by decide) hA0 (by omega) (by omega) (by omega) (by rw [← e1]; exact (Int32.ofInt_toInt _).symm) ?_
  refine jr.aload_n rfl rfl ?_
  refine jr.iload_n rfl rfl ?_
  refine jr.iconst rfl ?_
  refine jr.iadd rfl ?_
  obtain ⟨v2, e2⟩ : ∃ z_, (xs (i + 2).toNat).toInt = z_ := ⟨_, rfl⟩
  have b2 : -2147483648 ≤ v2 ∧ v2 ≤ 2147483647 := by rw [← e2]; exact jb_any _
  refine jr.ials (i := (i + 2)) v2 rfl (by decide) hA0 (by omega) (by omega) (by omega) (by rw [← e2]; exact (Int32.ofInt_toInt _).symm) ?_
  refine jr.aload_n rfl rfl ?_
  refine jr.iload_n rfl rfl ?_
  refine jr.iconst rfl ?_
  refine jr.iadd rfl ?_
  obtain ⟨v3, e3⟩ : ∃ z_, (xs (i + 3).toNat).toInt = z_ := ⟨_, rfl⟩
  have b3 : -2147483648 ≤ v3 ∧ v3 ≤ 2147483647 := by rw [← e3]; exact jb_any _
  refine jr.ials (i := (i + 3)) v3 rfl (by decide) hA0 (by omega) (by omega) (by omega) (by rw [← e3]; exact (Int32.ofInt_toInt _).symm) ?_
  refine jr_v rfl rfl (Or.inl rfl) rfl rfl (by decide) rfl ⟨rfl, Nat.le_of_ble_eq_true rfl, Nat.le_of_ble_eq_true rfl⟩ rfl (jc.deep (c_PacketWall_carried hC_M (FR.rfl _ M) (by omega) (by omega) (by omega) (fun r4 M4 hC_M4 hf_M4 z4  => ?_)) (by decide))
  have ht_M4 : FR W_all M M4 := FR.t ht_M hf_M4 (kw_sub rfl)
  have cv1 : CV M4 L S := ⟨hC_M4, (cv.2.1.fr hf_M4 rfl), (cv.2.2.1.fr hf_M4 rfl), (cv.2.2.2.1.fr cv.1 hf_M4 rfl), (by rw [hf_M4.g (show kd 413 = 44 from rfl) rfl, hf_M4.g (show kd 421 = 22 from rfl) rfl]; exact cv.2.2.2.2.1), ((hf_M4.g (show kd 421 = 22 from rfl) rfl).trans cv.2.2.2.2.2.1), ((hf_M4.g (show kd 0 = 35 from rfl) rfl).trans cv.2.2.2.2.2.2)⟩
  have rv1 : RV M4 L2 S := RV.tr rv (fun a i ha => hf_M4.g (kd_hi ha) rfl)
  refine jr.pop rfl rfl ?_
  refine jr.aload_n rfl rfl ?_
  refine jr.aload_n rfl rfl ?_
  refine jr.iload_n rfl rfl ?_
  refine jr.iconst rfl ?_
  refine jr.iadd rfl ?_
  obtain ⟨v5, e5⟩ : ∃ z_, (xs (i + 1).toNat).toInt = z_ := ⟨_, rfl⟩
  have b5 : -2147483648 ≤ v5 ∧ v5 ≤ 2147483647 := by rw [← e5]; exact jb_any _
  refine jr.ials (i := (i + 1)) v5 rfl (by decide) hA0 (by omega) (by omega) (by omega) (by rw [← e5]; exact (Int32.ofInt_toInt _).symm) ?_
  refine jr.aload_n rfl rfl ?_
  refine jr.iload_n rfl rfl ?_
  refine jr.iconst rfl ?_
  refine jr.iadd rfl ?_
  obtain ⟨v6, e6⟩ : ∃ z_, (xs (i + 2).toNat).toInt = z_ := ⟨_, rfl⟩
  have b6 : -2147483648 ≤ v6 ∧ v6 ≤ 2147483647 := by rw [← e6]; exact jb_any _
  refine jr.ials (i := (i + 2)) v6 rfl (by decide) hA0 (by omega) (by omega) (by omega) (by rw [← e6]; exact (Int32.ofInt_toInt _).symm) ?_
  refine jr.aload_n rfl rfl ?_
  refine jr.iload_n rfl rfl ?_
  refine jr.iconst rfl ?_
  refine jr.iadd rfl ?_
  obtain ⟨v7, e7⟩ : ∃ z_, (xs (i + 3).toNat).toInt = z_ := ⟨_, rfl⟩
  have b7 : -2147483648 ≤ v7 ∧ v7 ≤ 2147483647 := by rw [← e7]; exact jb_any _
  refine jr.ials (i := (i + 3)) v7 rfl (by decide) hA0 (by omega) (by omega) (by omega) (by rw [← e7]; exact (Int32.ofInt_toInt _).symm) ?_
  refine jr_v rfl rfl (Or.inl rfl) rfl rfl (by decide) rfl ⟨rfl, Nat.le_of_ble_eq_true rfl, Nat.le_of_ble_eq_true rfl⟩ rfl (jc.deep (r_carried rv1.1 rv1.2.1 rv1.2.2.1 (Kp.rfl _) (by omega) (by omega) (by omega) (fun r8 M8 hI hH hF hk z8 => ?_)) (by decide))
  have cv2 : CV M8 L S := cv1.kp hk
  have rv2 : RV M8 L2 S := rv1.kp hI hH hF hk
  refine jr.pop rfl rfl ?_
  refine jr.goto rfl rfl ?_
  exact k _ _ (Int.le_refl _) (by omega) (cv2.le (by omega)) (rv2.le (by omega))
theorem lop_11 {A : Nat → Option (Nat × (Nat → Int32))} [HA A] {Q : Option Value → jm → Prop} {N : Nat} {xs : Nat → Int32} (hA0 : A 0 = some (N, xs)) (hN : N ≤ 4000) {M : jm} {L L2 S i : Int} (cv : CV M L S) (rv : RV M L2 S) (hS : 0 ≤ S ∧ S ≤ 900000) (hL : 0 ≤ L ∧ L ≤ 1900000000) (hL2 : 0 ≤ L2 ∧ L2 ≤ 1900000000) (hi : 0 ≤ i ∧ i + 6 ≤ N) (k : ∀ (M' : jm) (S' : Int), S ≤ S' → S' ≤ S + 1000 → CV M' (L + 1000000) S' → RV M' (L2 + 2689623) S' → jr A 364 xm_law 1328 [(3, .int (Int32.ofInt (i))), (2, .ref (598)), (1, .ref (0)), (0, .ref (1000000))] [] M' Q) : jr A 364 xm_law 571 [(3, .int (Int32.ofInt (i))), (2, .ref (598)), (1, .ref (0)), (0, .ref (1000000))] [] M Q := by
  have hC_M := cv.1
  have ht_M : FR W_all M M := FR.rfl _ _
  have hne := cv.2.2.2.2.1
  have hz4 := cv.2.2.2.2.2.1
  have hS8 := cv.2.2.2.2.2.2
  refine jr.aload_n rfl rfl ?_
  refine jr.aload_n rfl rfl ?_
  refine jr.iload_n rfl rfl ?_
  refine jr.iconst rfl ?_
  refine jr.iadd rfl ?_
  obtain ⟨v1, e1⟩ : ∃ z_, (xs (i + 1).toNat).toInt = z_ := ⟨_, rfl⟩
  have b1 : -2147483648 ≤ v1 ∧ v1 ≤ 2147483647 := by rw [← e1]; exact jb_any _
  refine jr.ials (i := (i + 1)) v1 rfl (by decide) hA0 (by omega) (by omega) (by omega) (by rw [← e1]; exact (Int32.ofInt_toInt _).symm) ?_
  refine jr.aload_n rfl rfl ?_
  refine jr.iload_n rfl rfl ?_
  refine jr.iconst rfl ?_
  refine jr.iadd rfl ?_
  obtain ⟨v2, e2⟩ : ∃ z_, (xs (i + 2).toNat).toInt = z_ := ⟨_, rfl⟩
  have b2 : -2147483648 ≤ v2 ∧ v2 ≤ 2147483647 := by rw [← e2]; exact jb_any _
  refine jr.ials (i := (i + 2)) v2 rfl (by decide) hA0 (by omega) (by omega) (by omega) (by rw [← e2]; exact (Int32.ofInt_toInt _).symm) ?_
  refine jr_v rfl rfl (Or.inl rfl) rfl rfl (by decide) rfl ⟨rfl, Nat.le_of_ble_eq_true rfl, Nat.le_of_ble_eq_true rfl⟩ rfl (jc.deep (c_PacketWall_sum hC_M (FR.rfl _ M) (by omega) (by omega) (fun r3 M3 hC_M3 hf_M3 z3  => ?_)) (by decide))
  have ht_M3 : FR W_all M M3 := FR.t ht_M hf_M3 (kw_sub rfl)
  have cv1 : CV M3 L S := ⟨hC_M3, (cv.2.1.fr hf_M3 rfl), (cv.2.2.1.fr hf_M3 rfl), (cv.2.2.2.1.fr cv.1 hf_M3 rfl), (by rw [hf_M3.g (show kd 413 = 44 from rfl) rfl, hf_M3.g (show kd 421 = 22 from rfl) rfl]; exact cv.2.2.2.2.1), ((hf_M3.g (show kd 421 = 22 from rfl) rfl).trans cv.2.2.2.2.2.1), ((hf_M3.g (show kd 0 = 35 from rfl) rfl).trans cv.2.2.2.2.2.2)⟩
  have rv1 : RV M3 L2 S := RV.tr rv (fun a i ha => hf_M3.g (kd_hi ha) rfl)
  refine jr.pop rfl rfl ?_
  refine jr.aload_n rfl rfl ?_
  refine jr.aload_n rfl rfl ?_
  refine jr.iload_n rfl rfl ?_
  refine jr.iconst rfl ?_
  refine jr.iadd rfl ?_
  obtain ⟨v4, e4⟩ : ∃ z_, (xs (i + 1).toNat).toInt = z_ := ⟨_, rfl⟩
  have b4 : -2147483648 ≤ v4 ∧ v4 ≤ 2147483647 := by rw [← e4]; exact jb_any _
  refine jr.ials (i := (i + 1)) v4 rfl (by decide) hA0 (by omega) (by omega) (by omega) (by rw [← e4]; exact (Int32.ofInt_toInt _).symm) ?_
  refine jr.aload_n rfl rfl ?_
  refine jr.iload_n rfl rfl ?_
  refine jr.iconst rfl ?_
  refine jr.iadd rfl ?_
  obtain ⟨v5, e5⟩ : ∃ z_, (xs (i + 2).toNat).toInt = z_ := ⟨_, rfl⟩
  have b5 : -2147483648 ≤ v5 ∧ v5 ≤ 2147483647 := by rw [← e5]; exact jb_any _
  refine jr.ials (i := (i + 2)) v5 rfl (by decide) hA0 (by omega) (by omega) (by omega) (by rw [← e5]; exact (Int32.ofInt_toInt _).symm) ?_
  refine jr_v rfl rfl (Or.inl rfl) rfl rfl (by decide) rfl ⟨rfl, Nat.le_of_ble_eq_true rfl, Nat.le_of_ble_eq_true rfl⟩ rfl (jc.deep (r_sum rv1.1 rv1.2.1 rv1.2.2.1 (Kp.rfl _) (by omega) (by omega) (fun r6 M6 hI hH hF hk z6 => ?_)) (by decide))
  have cv2 : CV M6 L S := cv1.kp hk
  have rv2 : RV M6 L2 S := rv1.kp hI hH hF hk
  refine jr.pop rfl rfl ?_
  refine jr.goto rfl rfl ?_
  exact k _ _ (Int.le_refl _) (by omega) (cv2.le (by omega)) (rv2.le (by omega))
theorem lop_12 {A : Nat → Option (Nat × (Nat → Int32))} [HA A] {Q : Option Value → jm → Prop} {N : Nat} {xs : Nat → Int32} (hA0 : A 0 = some (N, xs)) (hN : N ≤ 4000) {M : jm} {L L2 S i : Int} (cv : CV M L S) (rv : RV M L2 S) (hS : 0 ≤ S ∧ S ≤ 900000) (hL : 0 ≤ L ∧ L ≤ 1900000000) (hL2 : 0 ≤ L2 ∧ L2 ≤ 1900000000) (hi : 0 ≤ i ∧ i + 6 ≤ N) (k : ∀ (M' : jm) (S' : Int), S ≤ S' → S' ≤ S + 1000 → CV M' (L + 1000000) S' → RV M' (L2 + 2689623) S' → jr A 364 xm_law 1328 [(3, .int (Int32.ofInt (i))), (2, .ref (598)), (1, .ref (0)), (0, .ref (1000000))] [] M' Q) : jr A 364 xm_law 604 [(3, .int (Int32.ofInt (i))), (2, .ref (598)), (1, .ref (0)), (0, .ref (1000000))] [] M Q := by
  have hC_M := cv.1
  have ht_M : FR W_all M M := FR.rfl _ _
  have hne := cv.2.2.2.2.1
  have hz4 := cv.2.2.2.2.2.1
  have hS8 := cv.2.2.2.2.2.2
  refine jr.aload_n rfl rfl ?_
  refine jr.aload_n rfl rfl ?_
  refine jr.iload_n rfl rfl ?_
  refine jr.iconst rfl ?_
  refine jr.iadd rfl ?_
  obtain ⟨v1, e1⟩ : ∃ z_, (xs (i + 1).toNat).toInt = z_ := ⟨_, rfl⟩
  have b1 : -2147483648 ≤ v1 ∧ v1 ≤ 2147483647 := by rw [← e1]; exact jb_any _
  refine jr.ials (i := (i + 1)) v1 rfl (by decide) hA0 (by omega) (by omega) (by omega) (by rw [← e1]; exact (Int32.ofInt_toInt _).symm) ?_
  refine jr_v rfl rfl (Or.inl rfl) rfl rfl (by decide) rfl ⟨rfl, Nat.le_of_ble_eq_true rfl, Nat.le_of_ble_eq_true rfl⟩ rfl (jc.deep (c_PacketWall_repair hC_M (FR.rfl _ M) (by omega) (fun r2 M2 hC_M2 hf_M2 z2  => ?_)) (by decide))
  have ht_M2 : FR W_all M M2 := FR.t ht_M hf_M2 (kw_sub rfl)
  have cv1 : CV M2 L S := ⟨hC_M2, (cv.2.1.fr hf_M2 rfl), (cv.2.2.1.fr hf_M2 rfl), (cv.2.2.2.1.fr cv.1 hf_M2 rfl), (by rw [hf_M2.g (show kd 413 = 44 from rfl) rfl, hf_M2.g (show kd 421 = 22 from rfl) rfl]; exact cv.2.2.2.2.1), ((hf_M2.g (show kd 421 = 22 from rfl) rfl).trans cv.2.2.2.2.2.1), ((hf_M2.g (show kd 0 = 35 from rfl) rfl).trans cv.2.2.2.2.2.2)⟩
  have rv1 : RV M2 L2 S := RV.tr rv (fun a i ha => hf_M2.g (kd_hi ha) rfl)
  refine jr.pop rfl rfl ?_
  refine jr.aload_n rfl rfl ?_
  refine jr.aload_n rfl rfl ?_
  refine jr.iload_n rfl rfl ?_
  refine jr.iconst rfl ?_
  refine jr.iadd rfl ?_
  obtain ⟨v3, e3⟩ : ∃ z_, (xs (i + 1).toNat).toInt = z_ := ⟨_, rfl⟩
  have b3 : -2147483648 ≤ v3 ∧ v3 ≤ 2147483647 := by rw [← e3]; exact jb_any _
  refine jr.ials (i := (i + 1)) v3 rfl (by decide) hA0 (by omega) (by omega) (by omega) (by rw [← e3]; exact (Int32.ofInt_toInt _).symm) ?_
  refine jr_v rfl rfl (Or.inl rfl) rfl rfl (by decide) rfl ⟨rfl, Nat.le_of_ble_eq_true rfl, Nat.le_of_ble_eq_true rfl⟩ rfl (jc.deep (r_repair rv1.1 rv1.2.1 rv1.2.2.1 (Kp.rfl _) (by omega) (fun r4 M4 hI hH hF hk z4 => ?_)) (by decide))
  have cv2 : CV M4 L S := cv1.kp hk
  have rv2 : RV M4 L2 S := rv1.kp hI hH hF hk
  refine jr.pop rfl rfl ?_
  refine jr.goto rfl rfl ?_
  exact k _ _ (Int.le_refl _) (by omega) (cv2.le (by omega)) (rv2.le (by omega))
theorem lop_13 {A : Nat → Option (Nat × (Nat → Int32))} [HA A] {Q : Option Value → jm → Prop} {N : Nat} {xs : Nat → Int32} (hA0 : A 0 = some (N, xs)) (hN : N ≤ 4000) {M : jm} {L L2 S i : Int} (cv : CV M L S) (rv : RV M L2 S) (hS : 0 ≤ S ∧ S ≤ 900000) (hL : 0 ≤ L ∧ L ≤ 1900000000) (hL2 : 0 ≤ L2 ∧ L2 ≤ 1900000000) (hi : 0 ≤ i ∧ i + 6 ≤ N) (k : ∀ (M' : jm) (S' : Int), S ≤ S' → S' ≤ S + 1000 → CV M' (L + 1000000) S' → RV M' (L2 + 2689623) S' → jr A 364 xm_law 1328 [(3, .int (Int32.ofInt (i))), (2, .ref (598)), (1, .ref (0)), (0, .ref (1000000))] [] M' Q) : jr A 364 xm_law 627 [(3, .int (Int32.ofInt (i))), (2, .ref (598)), (1, .ref (0)), (0, .ref (1000000))] [] M Q := by
  have hC_M := cv.1
  have ht_M : FR W_all M M := FR.rfl _ _
  have hne := cv.2.2.2.2.1
  have hz4 := cv.2.2.2.2.2.1
  have hS8 := cv.2.2.2.2.2.2
  refine jr.aload_n rfl rfl ?_
  refine jr.aload_n rfl rfl ?_
  refine jr.iload_n rfl rfl ?_
  refine jr.iconst rfl ?_
  refine jr.iadd rfl ?_
  obtain ⟨v1, e1⟩ : ∃ z_, (xs (i + 1).toNat).toInt = z_ := ⟨_, rfl⟩
  have b1 : -2147483648 ≤ v1 ∧ v1 ≤ 2147483647 := by rw [← e1]; exact jb_any _
  refine jr.ials (i := (i + 1)) v1 rfl (by decide) hA0 (by omega) (by omega) (by omega) (by rw [← e1]; exact (Int32.ofInt_toInt _).symm) ?_
  refine jr.aload_n rfl rfl ?_
  refine jr.iload_n rfl rfl ?_
  refine jr.iconst rfl ?_
  refine jr.iadd rfl ?_
  obtain ⟨v2, e2⟩ : ∃ z_, (xs (i + 2).toNat).toInt = z_ := ⟨_, rfl⟩
  have b2 : -2147483648 ≤ v2 ∧ v2 ≤ 2147483647 := by rw [← e2]; exact jb_any _
  refine jr.ials (i := (i + 2)) v2 rfl (by decide) hA0 (by omega) (by omega) (by omega) (by rw [← e2]; exact (Int32.ofInt_toInt _).symm) ?_
  refine jr.aload_n rfl rfl ?_
  refine jr.iload_n rfl rfl ?_
  refine jr.iconst rfl ?_
  refine jr.iadd rfl ?_
  obtain ⟨v3, e3⟩ : ∃ z_, (xs (i + 3).toNat).toInt = z_ := ⟨_, rfl⟩
  have b3 : -2147483648 ≤ v3 ∧ v3 ≤ 2147483647 := by rw [← e3]; exact jb_any _
  refine jr.ials (i := (i + 3)) v3 rfl (by decide) hA0 (by omega) (by omega) (by omega) (by rw [← e3]; exact (Int32.ofInt_toInt _).symm) ?_
  refine jr_v rfl rfl (Or.inl rfl) rfl rfl (by decide) rfl ⟨rfl, Nat.le_of_ble_eq_true rfl, Nat.le_of_ble_eq_true rfl⟩ rfl (jc.deep (c_PacketWall_set hC_M (FR.rfl _ M) (by omega) (by omega) (by omega) (fun r4 M4 hC_M4 hf_M4 z4  => ?_)) (by decide))
  have ht_M4 : FR W_all M M4 := FR.t ht_M hf_M4 (kw_sub rfl)
  have cv1 : CV M4 L S := ⟨hC_M4, (cv.2.1.fr hf_M4 rfl), (cv.2.2.1.fr hf_M4 rfl), (cv.2.2.2.1.fr cv.1 hf_M4 rfl), (by rw [hf_M4.g (show kd 413 = 44 from rfl) rfl, hf_M4.g (show kd 421 = 22 from rfl) rfl]; exact cv.2.2.2.2.1), ((hf_M4.g (show kd 421 = 22 from rfl) rfl).trans cv.2.2.2.2.2.1), ((hf_M4.g (show kd 0 = 35 from rfl) rfl).trans cv.2.2.2.2.2.2)⟩
  have rv1 : RV M4 L2 S := RV.tr rv (fun a i ha => hf_M4.g (kd_hi ha) rfl)
  refine jr.pop rfl rfl ?_
  refine jr.aload_n rfl rfl ?_
  refine jr.aload_n rfl rfl ?_
  refine jr.iload_n rfl rfl ?_
  refine jr.iconst rfl ?_
  refine jr.iadd rfl ?_
  obtain ⟨v5, e5⟩ : ∃ z_, (xs (i + 1).toNat).toInt = z_ := ⟨_, rfl⟩
  have b5 : -2147483648 ≤ v5 ∧ v5 ≤ 2147483647 := by rw [← e5]; exact jb_any _
  refine jr.ials (i := (i + 1)) v5 rfl (by decide) hA0 (by omega) (by omega) (by omega) (by rw [← e5]; exact (Int32.ofInt_toInt _).symm) ?_
  refine jr.aload_n rfl rfl ?_
  refine jr.iload_n rfl rfl ?_
  refine jr.iconst rfl ?_
  refine jr.iadd rfl ?_
  obtain ⟨v6, e6⟩ : ∃ z_, (xs (i + 2).toNat).toInt = z_ := ⟨_, rfl⟩
  have b6 : -2147483648 ≤ v6 ∧ v6 ≤ 2147483647 := by rw [← e6]; exact jb_any _
  refine jr.ials (i := (i + 2)) v6 rfl (by decide) hA0 (by omega) (by omega) (by omega) (by rw [← e6]; exact (Int32.ofInt_toInt _).symm) ?_
  refine jr.aload_n rfl rfl ?_
  refine jr.iload_n rfl rfl ?_
  refine jr.iconst rfl ?_
  refine jr.iadd rfl ?_
  obtain ⟨v7, e7⟩ : ∃ z_, (xs (i + 3).toNat).toInt = z_ := ⟨_, rfl⟩
  have b7 : -2147483648 ≤ v7 ∧ v7 ≤ 2147483647 := by rw [← e7]; exact jb_any _
  refine jr.ials (i := (i + 3)) v7 rfl (by decide) hA0 (by omega) (by omega) (by omega) (by rw [← e7]; exact (Int32.ofInt_toInt _).symm) ?_
  refine jr_v rfl rfl (Or.inl rfl) rfl rfl (by decide) rfl ⟨rfl, Nat.le_of_ble_eq_true rfl, Nat.le_of_ble_eq_true rfl⟩ rfl (jc.deep (r_set rv1.1 rv1.2.1 rv1.2.2.1 (Kp.rfl _) (by omega) (by omega) (by omega) (fun r8 M8 hI hH hF hk z8 => ?_)) (by decide))
  have cv2 : CV M8 L S := cv1.kp hk
  have rv2 : RV M8 L2 S := rv1.kp hI hH hF hk
  refine jr.pop rfl rfl ?_
  refine jr.goto rfl rfl ?_
  exact k _ _ (Int.le_refl _) (by omega) (cv2.le (by omega)) (rv2.le (by omega))
theorem lop_14 {A : Nat → Option (Nat × (Nat → Int32))} [HA A] {Q : Option Value → jm → Prop} {N : Nat} {xs : Nat → Int32} (hA0 : A 0 = some (N, xs)) (hN : N ≤ 4000) {M : jm} {L L2 S i : Int} (cv : CV M L S) (rv : RV M L2 S) (hS : 0 ≤ S ∧ S ≤ 900000) (hL : 0 ≤ L ∧ L ≤ 1900000000) (hL2 : 0 ≤ L2 ∧ L2 ≤ 1900000000) (hi : 0 ≤ i ∧ i + 6 ≤ N) (k : ∀ (M' : jm) (S' : Int), S ≤ S' → S' ≤ S + 1000 → CV M' (L + 1000000) S' → RV M' (L2 + 2689623) S' → jr A 364 xm_law 1328 [(3, .int (Int32.ofInt (i))), (2, .ref (598)), (1, .ref (0)), (0, .ref (1000000))] [] M' Q) : jr A 364 xm_law 670 [(3, .int (Int32.ofInt (i))), (2, .ref (598)), (1, .ref (0)), (0, .ref (1000000))] [] M Q := by
  have hC_M := cv.1
  have ht_M : FR W_all M M := FR.rfl _ _
  have hne := cv.2.2.2.2.1
  have hz4 := cv.2.2.2.2.2.1
  have hS8 := cv.2.2.2.2.2.2
  refine jr.aload_n rfl rfl ?_
  refine jr.aload_n rfl rfl ?_
  refine jr.iload_n rfl rfl ?_
  refine jr.iconst rfl ?_
  refine jr.iadd rfl ?_
  obtain ⟨v1, e1⟩ : ∃ z_, (xs (i + 1).toNat).toInt = z_ := ⟨_, rfl⟩
  have b1 : -2147483648 ≤ v1 ∧ v1 ≤ 2147483647 := by rw [← e1]; exact jb_any _
  refine jr.ials (i := (i + 1)) v1 rfl (by decide) hA0 (by omega) (by omega) (by omega) (by rw [← e1]; exact (Int32.ofInt_toInt _).symm) ?_
  refine jr_v rfl rfl (Or.inl rfl) rfl rfl (by decide) rfl ⟨rfl, Nat.le_of_ble_eq_true rfl, Nat.le_of_ble_eq_true rfl⟩ rfl (jc.deep (c_PacketWall_digest hC_M (by omega) (fun r2 z2  => ?_)) (by decide))
  skip
  refine jr.pop2 rfl ?_
  refine jr.aload_n rfl rfl ?_
  refine jr.aload_n rfl rfl ?_
  refine jr.iload_n rfl rfl ?_
  refine jr.iconst rfl ?_
  refine jr.iadd rfl ?_
  obtain ⟨v3, e3⟩ : ∃ z_, (xs (i + 1).toNat).toInt = z_ := ⟨_, rfl⟩
  have b3 : -2147483648 ≤ v3 ∧ v3 ≤ 2147483647 := by rw [← e3]; exact jb_any _
  refine jr.ials (i := (i + 1)) v3 rfl (by decide) hA0 (by omega) (by omega) (by omega) (by rw [← e3]; exact (Int32.ofInt_toInt _).symm) ?_
  refine jr_v rfl rfl (Or.inl rfl) rfl rfl (by decide) rfl ⟨rfl, Nat.le_of_ble_eq_true rfl, Nat.le_of_ble_eq_true rfl⟩ rfl (jc.deep (r_digest rv.1 rv.2.1 rv.2.2.1 (Kp.rfl _) (by omega) (fun r4 M4 hI hH hF hk z4 => ?_)) (by decide))
  have cv2 : CV M4 L S := cv.kp hk
  have rv2 : RV M4 L2 S := rv.kp hI hH hF hk
  refine jr.pop2 rfl ?_
  refine jr.goto rfl rfl ?_
  exact k _ _ (Int.le_refl _) (by omega) (cv2.le (by omega)) (rv2.le (by omega))
theorem lop_15 {A : Nat → Option (Nat × (Nat → Int32))} [HA A] {Q : Option Value → jm → Prop} {N : Nat} {xs : Nat → Int32} (hA0 : A 0 = some (N, xs)) (hN : N ≤ 4000) {M : jm} {L L2 S i : Int} (cv : CV M L S) (rv : RV M L2 S) (hS : 0 ≤ S ∧ S ≤ 900000) (hL : 0 ≤ L ∧ L ≤ 1900000000) (hL2 : 0 ≤ L2 ∧ L2 ≤ 1900000000) (hi : 0 ≤ i ∧ i + 6 ≤ N) (k : ∀ (M' : jm) (S' : Int), S ≤ S' → S' ≤ S + 1000 → CV M' (L + 1000000) S' → RV M' (L2 + 2689623) S' → jr A 364 xm_law 1328 [(3, .int (Int32.ofInt (i))), (2, .ref (598)), (1, .ref (0)), (0, .ref (1000000))] [] M' Q) : jr A 364 xm_law 693 [(3, .int (Int32.ofInt (i))), (2, .ref (598)), (1, .ref (0)), (0, .ref (1000000))] [] M Q := by
  have hC_M := cv.1
  have ht_M : FR W_all M M := FR.rfl _ _
  have hne := cv.2.2.2.2.1
  have hz4 := cv.2.2.2.2.2.1
  have hS8 := cv.2.2.2.2.2.2
  refine jr.aload_n rfl rfl ?_
  refine jr.aload_n rfl rfl ?_
  refine jr.iload_n rfl rfl ?_
  refine jr.iconst rfl ?_
  refine jr.iadd rfl ?_
  obtain ⟨v1, e1⟩ : ∃ z_, (xs (i + 1).toNat).toInt = z_ := ⟨_, rfl⟩
  have b1 : -2147483648 ≤ v1 ∧ v1 ≤ 2147483647 := by rw [← e1]; exact jb_any _
  refine jr.ials (i := (i + 1)) v1 rfl (by decide) hA0 (by omega) (by omega) (by omega) (by rw [← e1]; exact (Int32.ofInt_toInt _).symm) ?_
  refine jr_v rfl rfl (Or.inl rfl) rfl rfl (by decide) rfl ⟨rfl, Nat.le_of_ble_eq_true rfl, Nat.le_of_ble_eq_true rfl⟩ rfl (jc.deep (c_PacketWall_gather hC_M (FR.rfl _ M) (by omega) cv.2.2.1 (fun r2 M2 hC_M2 hf_M2 z2 w2_0 => ?_)) (by decide))
  have ht_M2 : FR W_all M M2 := FR.t ht_M hf_M2 (kw_sub rfl)
  have cv1 : CV M2 L S := ⟨hC_M2, (cv.2.1.fr hf_M2 rfl), w2_0, (cv.2.2.2.1.fr cv.1 hf_M2 rfl), (by rw [hf_M2.g (show kd 413 = 44 from rfl) rfl, hf_M2.g (show kd 421 = 22 from rfl) rfl]; exact cv.2.2.2.2.1), ((hf_M2.g (show kd 421 = 22 from rfl) rfl).trans cv.2.2.2.2.2.1), ((hf_M2.g (show kd 0 = 35 from rfl) rfl).trans cv.2.2.2.2.2.2)⟩
  have rv1 : RV M2 L2 S := RV.tr rv (fun a i ha => hf_M2.g (kd_hi ha) rfl)
  refine jr.pop rfl rfl ?_
  refine jr.aload_n rfl rfl ?_
  refine jr.aload_n rfl rfl ?_
  refine jr.iload_n rfl rfl ?_
  refine jr.iconst rfl ?_
  refine jr.iadd rfl ?_
  obtain ⟨v3, e3⟩ : ∃ z_, (xs (i + 1).toNat).toInt = z_ := ⟨_, rfl⟩
  have b3 : -2147483648 ≤ v3 ∧ v3 ≤ 2147483647 := by rw [← e3]; exact jb_any _
  refine jr.ials (i := (i + 1)) v3 rfl (by decide) hA0 (by omega) (by omega) (by omega) (by rw [← e3]; exact (Int32.ofInt_toInt _).symm) ?_
  refine jr_v rfl rfl (Or.inl rfl) rfl rfl (by decide) rfl ⟨rfl, Nat.le_of_ble_eq_true rfl, Nat.le_of_ble_eq_true rfl⟩ rfl (jc.deep (r_gather rv1.1 rv1.2.1 rv1.2.2.1 (by omega) rv1.2.2.2.1 (fun r4 M4 hI hH hF z4 hg hf hk => ?_)) (by decide))
  have cv2 : CV M4 L S := cv1.z (fun a i ha => hf a i (by omega) (by omega) (by omega) (by omega) (by omega) (by omega) (by omega) (by omega) (by omega) (by omega) (by omega) (by omega) (by omega) (by omega) (by omega) (by omega) (by omega) (by omega) (by omega) (by omega) (by omega) (by omega) (by omega) (by omega))
  have rv2 : RV M4 L2 S := ⟨hI, hH, hF, hg, by rw [show M4 650 = M2 650 from funext (fun i => hf 650 i (by decide) (by decide) (by decide) (by decide) (by decide) (by decide) (by decide) (by decide) (by decide) (by decide) (by decide) (by decide) (by decide) (by decide) (by decide) (by decide) (by decide) (by decide) (by decide) (by decide) (by decide) (by decide) (by decide) (by decide))]; exact rv1.2.2.2.2.1, (MC.fr rv1.2.2.2.2.2.1 (fun i => hf 652 i (by decide) (by decide) (by decide) (by decide) (by decide) (by decide) (by decide) (by decide) (by decide) (by decide) (by decide) (by decide) (by decide) (by decide) (by decide) (by decide) (by decide) (by decide) (by decide) (by decide) (by decide) (by decide) (by decide) (by decide)) (fun i => hf 653 i (by decide) (by decide) (by decide) (by decide) (by decide) (by decide) (by decide) (by decide) (by decide) (by decide) (by decide) (by decide) (by decide) (by decide) (by decide) (by decide) (by decide) (by decide) (by decide) (by decide) (by decide) (by decide) (by decide) (by decide)) (fun i => hf 654 i (by decide) (by decide) (by decide) (by decide) (by decide) (by decide) (by decide) (by decide) (by decide) (by decide) (by decide) (by decide) (by decide) (by decide) (by decide) (by decide) (by decide) (by decide) (by decide) (by decide) (by decide) (by decide) (by decide) (by decide)) (fun i => hf 655 i (by decide) (by decide) (by decide) (by decide) (by decide) (by decide) (by decide) (by decide) (by decide) (by decide) (by decide) (by decide) (by decide) (by decide) (by decide) (by decide) (by decide) (by decide) (by decide) (by decide) (by decide) (by decide) (by decide) (by decide)) (hk 82 (by decide) (by decide) (by decide) (by decide) (by decide))), (AS.fr rv1.2.2.2.2.2.2.1 (fun i => hf 685 i (by decide) (by decide) (by decide) (by decide) (by decide) (by decide) (by decide) (by decide) (by decide) (by decide) (by decide) (by decide) (by decide) (by decide) (by decide) (by decide) (by decide) (by decide) (by decide) (by decide) (by decide) (by decide) (by decide) (by decide)) (hk 112 (by decide) (by decide) (by decide) (by decide) (by decide))), (hk 2 (by decide) (by decide) (by decide) (by decide) (by decide)).trans rv1.2.2.2.2.2.2.2⟩
  refine jr.pop rfl rfl ?_
  refine jr.goto rfl rfl ?_
  exact k _ _ (Int.le_refl _) (by omega) (cv2.le (by omega)) (rv2.le (by omega))
theorem lop_16 {A : Nat → Option (Nat × (Nat → Int32))} [HA A] {Q : Option Value → jm → Prop} {N : Nat} {xs : Nat → Int32} (hA0 : A 0 = some (N, xs)) (hN : N ≤ 4000) {M : jm} {L L2 S i : Int} (cv : CV M L S) (rv : RV M L2 S) (hS : 0 ≤ S ∧ S ≤ 900000) (hL : 0 ≤ L ∧ L ≤ 1900000000) (hL2 : 0 ≤ L2 ∧ L2 ≤ 1900000000) (hi : 0 ≤ i ∧ i + 6 ≤ N) (k : ∀ (M' : jm) (S' : Int), S ≤ S' → S' ≤ S + 1000 → CV M' (L + 1000000) S' → RV M' (L2 + 2689623) S' → jr A 364 xm_law 1328 [(3, .int (Int32.ofInt (i))), (2, .ref (598)), (1, .ref (0)), (0, .ref (1000000))] [] M' Q) : jr A 364 xm_law 716 [(3, .int (Int32.ofInt (i))), (2, .ref (598)), (1, .ref (0)), (0, .ref (1000000))] [] M Q := by
  have hC_M := cv.1
  have ht_M : FR W_all M M := FR.rfl _ _
  have hne := cv.2.2.2.2.1
  have hz4 := cv.2.2.2.2.2.1
  have hS8 := cv.2.2.2.2.2.2
  refine jr.aload_n rfl rfl ?_
  refine jr.aload_n rfl rfl ?_
  refine jr.iload_n rfl rfl ?_
  refine jr.iconst rfl ?_
  refine jr.iadd rfl ?_
  obtain ⟨v1, e1⟩ : ∃ z_, (xs (i + 1).toNat).toInt = z_ := ⟨_, rfl⟩
  have b1 : -2147483648 ≤ v1 ∧ v1 ≤ 2147483647 := by rw [← e1]; exact jb_any _
  refine jr.ials (i := (i + 1)) v1 rfl (by decide) hA0 (by omega) (by omega) (by omega) (by rw [← e1]; exact (Int32.ofInt_toInt _).symm) ?_
  refine jr_v rfl rfl (Or.inl rfl) rfl rfl (by decide) rfl ⟨rfl, Nat.le_of_ble_eq_true rfl, Nat.le_of_ble_eq_true rfl⟩ rfl (jc.deep (c_PacketWall_gathered hC_M (by omega) (fun r2 z2  => ?_)) (by decide))
  skip
  refine jr.pop rfl rfl ?_
  refine jr.aload_n rfl rfl ?_
  refine jr.aload_n rfl rfl ?_
  refine jr.iload_n rfl rfl ?_
  refine jr.iconst rfl ?_
  refine jr.iadd rfl ?_
  obtain ⟨v3, e3⟩ : ∃ z_, (xs (i + 1).toNat).toInt = z_ := ⟨_, rfl⟩
  have b3 : -2147483648 ≤ v3 ∧ v3 ≤ 2147483647 := by rw [← e3]; exact jb_any _
  refine jr.ials (i := (i + 1)) v3 rfl (by decide) hA0 (by omega) (by omega) (by omega) (by rw [← e3]; exact (Int32.ofInt_toInt _).symm) ?_
  refine jr_v rfl rfl (Or.inl rfl) rfl rfl (by decide) rfl ⟨rfl, Nat.le_of_ble_eq_true rfl, Nat.le_of_ble_eq_true rfl⟩ rfl (jc.deep (r_gathered rv.1 rv.2.1 rv.2.2.1 (Kp.rfl _) (by omega) (fun r4 M4 hI hH hF hk z4 => ?_)) (by decide))
  have cv2 : CV M4 L S := cv.kp hk
  have rv2 : RV M4 L2 S := rv.kp hI hH hF hk
  refine jr.pop rfl rfl ?_
  refine jr.goto rfl rfl ?_
  exact k _ _ (Int.le_refl _) (by omega) (cv2.le (by omega)) (rv2.le (by omega))
theorem lop_17 {A : Nat → Option (Nat × (Nat → Int32))} [HA A] {Q : Option Value → jm → Prop} {N : Nat} {xs : Nat → Int32} (hA0 : A 0 = some (N, xs)) (hN : N ≤ 4000) {M : jm} {L L2 S i : Int} (cv : CV M L S) (rv : RV M L2 S) (hS : 0 ≤ S ∧ S ≤ 900000) (hL : 0 ≤ L ∧ L ≤ 1900000000) (hL2 : 0 ≤ L2 ∧ L2 ≤ 1900000000) (hi : 0 ≤ i ∧ i + 6 ≤ N) (k : ∀ (M' : jm) (S' : Int), S ≤ S' → S' ≤ S + 1000 → CV M' (L + 1000000) S' → RV M' (L2 + 2689623) S' → jr A 364 xm_law 1328 [(3, .int (Int32.ofInt (i))), (2, .ref (598)), (1, .ref (0)), (0, .ref (1000000))] [] M' Q) : jr A 364 xm_law 739 [(3, .int (Int32.ofInt (i))), (2, .ref (598)), (1, .ref (0)), (0, .ref (1000000))] [] M Q := by
  have hC_M := cv.1
  have ht_M : FR W_all M M := FR.rfl _ _
  have hne := cv.2.2.2.2.1
  have hz4 := cv.2.2.2.2.2.1
  have hS8 := cv.2.2.2.2.2.2
  refine jr.aload_n rfl rfl ?_
  refine jr.aload_n rfl rfl ?_
  refine jr.iload_n rfl rfl ?_
  refine jr.iconst rfl ?_
  refine jr.iadd rfl ?_
  obtain ⟨v1, e1⟩ : ∃ z_, (xs (i + 1).toNat).toInt = z_ := ⟨_, rfl⟩
  have b1 : -2147483648 ≤ v1 ∧ v1 ≤ 2147483647 := by rw [← e1]; exact jb_any _
  refine jr.ials (i := (i + 1)) v1 rfl (by decide) hA0 (by omega) (by omega) (by omega) (by rw [← e1]; exact (Int32.ofInt_toInt _).symm) ?_
  refine jr_v rfl rfl (Or.inl rfl) rfl rfl (by decide) rfl ⟨rfl, Nat.le_of_ble_eq_true rfl, Nat.le_of_ble_eq_true rfl⟩ rfl (jc.deep (c_PacketWall_tick hC_M (FR.rfl _ M) (by omega) hS8 (by omega) (fun r2 M2 hC_M2 hf_M2 z2 w2_0 => ?_)) (by decide))
  have ht_M2 : FR W_all M M2 := FR.t ht_M hf_M2 (kw_sub rfl)
  obtain ⟨v3, e3⟩ : ∃ z_, M2 0 8 = z_ := ⟨_, rfl⟩
  have b3 : (-2147483648) ≤ v3 ∧ v3 ≤ 2147483647 := by rw [← e3]; exact (CI.r hC_M2 (show kd 0 = 35 from rfl) (by decide) 8)
  have cv1 : CV M2 L (M2 0 8) := ⟨hC_M2, (cv.2.1.fr hf_M2 rfl), (cv.2.2.1.fr hf_M2 rfl), (cv.2.2.2.1.fr cv.1 hf_M2 rfl), (by rw [hf_M2.g (show kd 413 = 44 from rfl) rfl, hf_M2.g (show kd 421 = 22 from rfl) rfl]; exact cv.2.2.2.2.1), ((hf_M2.g (show kd 421 = 22 from rfl) rfl).trans cv.2.2.2.2.2.1), rfl⟩
  have rv1 : RV M2 L2 S := RV.tr rv (fun a i ha => hf_M2.g (kd_hi ha) rfl)
  refine jr.aload_n rfl rfl ?_
  refine jr.aload_n rfl rfl ?_
  refine jr.iload_n rfl rfl ?_
  refine jr.iconst rfl ?_
  refine jr.iadd rfl ?_
  obtain ⟨v4, e4⟩ : ∃ z_, (xs (i + 1).toNat).toInt = z_ := ⟨_, rfl⟩
  have b4 : -2147483648 ≤ v4 ∧ v4 ≤ 2147483647 := by rw [← e4]; exact jb_any _
  refine jr.ials (i := (i + 1)) v4 rfl (by decide) hA0 (by omega) (by omega) (by omega) (by rw [← e4]; exact (Int32.ofInt_toInt _).symm) ?_
  refine jr_v rfl rfl (Or.inl rfl) rfl rfl (by decide) rfl ⟨rfl, Nat.le_of_ble_eq_true rfl, Nat.le_of_ble_eq_true rfl⟩ rfl (jc.deep (r_tick2 rv1.1 rv1.2.1 rv1.2.2.1 (by omega) (by rw [rv1.2.2.2.2.2.2.2]; omega) rv1.2.2.2.1 (fun r5 M5 hI hH hF z5 w5 hg hf hk => ?_)) (by decide))
  have cv2 : CV M5 L (M2 0 8) := cv1.z (fun a i ha => hf a i (by omega) (by omega) (by omega) (by omega))
  have rv2 : RV M5 L2 (M5 598 2) := ⟨hI, hH, hF, hg, by rw [show M5 650 = M2 650 from funext (fun i => hf 650 i (by decide) (by decide) (by decide) (by decide))]; exact rv1.2.2.2.2.1, MC.fr rv1.2.2.2.2.2.1 (fun i => hf 652 i (by decide) (by decide) (by decide) (by decide)) (fun i => hf 653 i (by decide) (by decide) (by decide) (by decide)) (fun i => hf 654 i (by decide) (by decide) (by decide) (by decide)) (fun i => hf 655 i (by decide) (by decide) (by decide) (by decide)) (hk 82 (by decide)), AS.fr rv1.2.2.2.2.2.2.1 (fun i => hf 685 i (by decide) (by decide) (by decide) (by decide)) (hk 112 (by decide)), rfl⟩
  have eS := rv1.2.2.2.2.2.2.2
  refine jr.icmp_eq rfl rfl (by omega) (by omega) (fun h757 => ?_) (fun h => absurd h (by omega))
  exact k _ (M2 0 8) (by omega) (by omega) (cv2.le (by omega)) ((show RV M5 L2 (M2 0 8) from by rw [show M2 0 8 = M5 598 2 from by omega]; exact rv2).le (by omega))
theorem lop_18 {A : Nat → Option (Nat × (Nat → Int32))} [HA A] {Q : Option Value → jm → Prop} {N : Nat} {xs : Nat → Int32} (hA0 : A 0 = some (N, xs)) (hN : N ≤ 4000) {M : jm} {L L2 S i : Int} (cv : CV M L S) (rv : RV M L2 S) (hS : 0 ≤ S ∧ S ≤ 900000) (hL : 0 ≤ L ∧ L ≤ 1900000000) (hL2 : 0 ≤ L2 ∧ L2 ≤ 1900000000) (hi : 0 ≤ i ∧ i + 6 ≤ N) (k : ∀ (M' : jm) (S' : Int), S ≤ S' → S' ≤ S + 1000 → CV M' (L + 1000000) S' → RV M' (L2 + 2689623) S' → jr A 364 xm_law 1328 [(3, .int (Int32.ofInt (i))), (2, .ref (598)), (1, .ref (0)), (0, .ref (1000000))] [] M' Q) : jr A 364 xm_law 762 [(3, .int (Int32.ofInt (i))), (2, .ref (598)), (1, .ref (0)), (0, .ref (1000000))] [] M Q := by
  have hC_M := cv.1
  have ht_M : FR W_all M M := FR.rfl _ _
  have hne := cv.2.2.2.2.1
  have hz4 := cv.2.2.2.2.2.1
  have hS8 := cv.2.2.2.2.2.2
  refine jr.aload_n rfl rfl ?_
  refine jr.aload_n rfl rfl ?_
  refine jr.iload_n rfl rfl ?_
  refine jr.iconst rfl ?_
  refine jr.iadd rfl ?_
  obtain ⟨v1, e1⟩ : ∃ z_, (xs (i + 1).toNat).toInt = z_ := ⟨_, rfl⟩
  have b1 : -2147483648 ≤ v1 ∧ v1 ≤ 2147483647 := by rw [← e1]; exact jb_any _
  refine jr.ials (i := (i + 1)) v1 rfl (by decide) hA0 (by omega) (by omega) (by omega) (by rw [← e1]; exact (Int32.ofInt_toInt _).symm) ?_
  refine jr_v rfl rfl (Or.inl rfl) rfl rfl (by decide) rfl ⟨rfl, Nat.le_of_ble_eq_true rfl, Nat.le_of_ble_eq_true rfl⟩ rfl (jc.deep (c_PacketWall_track hC_M (FR.rfl _ M) (by omega) (fun r2 M2 hC_M2 hf_M2 z2  => ?_)) (by decide))
  have ht_M2 : FR W_all M M2 := FR.t ht_M hf_M2 (kw_sub rfl)
  have cv1 : CV M2 L S := ⟨hC_M2, (cv.2.1.fr hf_M2 rfl), (cv.2.2.1.fr hf_M2 rfl), (cv.2.2.2.1.fr cv.1 hf_M2 rfl), (by rw [hf_M2.g (show kd 413 = 44 from rfl) rfl, hf_M2.g (show kd 421 = 22 from rfl) rfl]; exact cv.2.2.2.2.1), ((hf_M2.g (show kd 421 = 22 from rfl) rfl).trans cv.2.2.2.2.2.1), ((hf_M2.g (show kd 0 = 35 from rfl) rfl).trans cv.2.2.2.2.2.2)⟩
  have rv1 : RV M2 L2 S := RV.tr rv (fun a i ha => hf_M2.g (kd_hi ha) rfl)
  refine jr.pop rfl rfl ?_
  refine jr.aload_n rfl rfl ?_
  refine jr.aload_n rfl rfl ?_
  refine jr.iload_n rfl rfl ?_
  refine jr.iconst rfl ?_
  refine jr.iadd rfl ?_
  obtain ⟨v3, e3⟩ : ∃ z_, (xs (i + 1).toNat).toInt = z_ := ⟨_, rfl⟩
  have b3 : -2147483648 ≤ v3 ∧ v3 ≤ 2147483647 := by rw [← e3]; exact jb_any _
  refine jr.ials (i := (i + 1)) v3 rfl (by decide) hA0 (by omega) (by omega) (by omega) (by rw [← e3]; exact (Int32.ofInt_toInt _).symm) ?_
  refine jr_v rfl rfl (Or.inl rfl) rfl rfl (by decide) rfl ⟨rfl, Nat.le_of_ble_eq_true rfl, Nat.le_of_ble_eq_true rfl⟩ rfl (jc.deep (r_track rv1.1 rv1.2.1 rv1.2.2.1 (Kp.rfl _) (by omega) (fun r4 M4 hI hH hF hk z4 => ?_)) (by decide))
  have cv2 : CV M4 L S := cv1.kp hk
  have rv2 : RV M4 L2 S := rv1.kp hI hH hF hk
  refine jr.pop rfl rfl ?_
  refine jr.goto rfl rfl ?_
  exact k _ _ (Int.le_refl _) (by omega) (cv2.le (by omega)) (rv2.le (by omega))
theorem lop_19 {A : Nat → Option (Nat × (Nat → Int32))} [HA A] {Q : Option Value → jm → Prop} {N : Nat} {xs : Nat → Int32} (hA0 : A 0 = some (N, xs)) (hN : N ≤ 4000) {M : jm} {L L2 S i : Int} (cv : CV M L S) (rv : RV M L2 S) (hS : 0 ≤ S ∧ S ≤ 900000) (hL : 0 ≤ L ∧ L ≤ 1900000000) (hL2 : 0 ≤ L2 ∧ L2 ≤ 1900000000) (hi : 0 ≤ i ∧ i + 6 ≤ N) (k : ∀ (M' : jm) (S' : Int), S ≤ S' → S' ≤ S + 1000 → CV M' (L + 1000000) S' → RV M' (L2 + 2689623) S' → jr A 364 xm_law 1328 [(3, .int (Int32.ofInt (i))), (2, .ref (598)), (1, .ref (0)), (0, .ref (1000000))] [] M' Q) : jr A 364 xm_law 785 [(3, .int (Int32.ofInt (i))), (2, .ref (598)), (1, .ref (0)), (0, .ref (1000000))] [] M Q := by
  have hC_M := cv.1
  have ht_M : FR W_all M M := FR.rfl _ _
  have hne := cv.2.2.2.2.1
  have hz4 := cv.2.2.2.2.2.1
  have hS8 := cv.2.2.2.2.2.2
  refine jr.aload_n rfl rfl ?_
  refine jr.aload_n rfl rfl ?_
  refine jr.iload_n rfl rfl ?_
  refine jr.iconst rfl ?_
  refine jr.iadd rfl ?_
  obtain ⟨v1, e1⟩ : ∃ z_, (xs (i + 1).toNat).toInt = z_ := ⟨_, rfl⟩
  have b1 : -2147483648 ≤ v1 ∧ v1 ≤ 2147483647 := by rw [← e1]; exact jb_any _
  refine jr.ials (i := (i + 1)) v1 rfl (by decide) hA0 (by omega) (by omega) (by omega) (by rw [← e1]; exact (Int32.ofInt_toInt _).symm) ?_
  refine jr.aload_n rfl rfl ?_
  refine jr.iload_n rfl rfl ?_
  refine jr.iconst rfl ?_
  refine jr.iadd rfl ?_
  obtain ⟨v2, e2⟩ : ∃ z_, (xs (i + 2).toNat).toInt = z_ := ⟨_, rfl⟩
  have b2 : -2147483648 ≤ v2 ∧ v2 ≤ 2147483647 := by rw [← e2]; exact jb_any _
  refine jr.ials (i := (i + 2)) v2 rfl (by decide) hA0 (by omega) (by omega) (by omega) (by rw [← e2]; exact (Int32.ofInt_toInt _).symm) ?_
  refine jr_v rfl rfl (Or.inl rfl) rfl rfl (by decide) rfl ⟨rfl, Nat.le_of_ble_eq_true rfl, Nat.le_of_ble_eq_true rfl⟩ rfl (jc.deep (c_PacketWall_flow hC_M (by omega) (by omega) (fun r3 z3  => ?_)) (by decide))
  skip
  refine jr.pop rfl rfl ?_
  refine jr.aload_n rfl rfl ?_
  refine jr.aload_n rfl rfl ?_
  refine jr.iload_n rfl rfl ?_
  refine jr.iconst rfl ?_
  refine jr.iadd rfl ?_
  obtain ⟨v4, e4⟩ : ∃ z_, (xs (i + 1).toNat).toInt = z_ := ⟨_, rfl⟩
  have b4 : -2147483648 ≤ v4 ∧ v4 ≤ 2147483647 := by rw [← e4]; exact jb_any _
  refine jr.ials (i := (i + 1)) v4 rfl (by decide) hA0 (by omega) (by omega) (by omega) (by rw [← e4]; exact (Int32.ofInt_toInt _).symm) ?_
  refine jr.aload_n rfl rfl ?_
  refine jr.iload_n rfl rfl ?_
  refine jr.iconst rfl ?_
  refine jr.iadd rfl ?_
  obtain ⟨v5, e5⟩ : ∃ z_, (xs (i + 2).toNat).toInt = z_ := ⟨_, rfl⟩
  have b5 : -2147483648 ≤ v5 ∧ v5 ≤ 2147483647 := by rw [← e5]; exact jb_any _
  refine jr.ials (i := (i + 2)) v5 rfl (by decide) hA0 (by omega) (by omega) (by omega) (by rw [← e5]; exact (Int32.ofInt_toInt _).symm) ?_
  refine jr_v rfl rfl (Or.inl rfl) rfl rfl (by decide) rfl ⟨rfl, Nat.le_of_ble_eq_true rfl, Nat.le_of_ble_eq_true rfl⟩ rfl (jc.deep (r_flow rv.1 rv.2.1 rv.2.2.1 (Kp.rfl _) (by omega) (by omega) (fun r6 M6 hI hH hF hk z6 => ?_)) (by decide))
  have cv2 : CV M6 L S := cv.kp hk
  have rv2 : RV M6 L2 S := rv.kp hI hH hF hk
  refine jr.pop rfl rfl ?_
  refine jr.goto rfl rfl ?_
  exact k _ _ (Int.le_refl _) (by omega) (cv2.le (by omega)) (rv2.le (by omega))
