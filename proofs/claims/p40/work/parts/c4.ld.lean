section
/-! ===== the calls of the law, 3 ===== -/
theorem lop_30 {A : Nat → Option (Nat × (Nat → Int32))} [HA A] {Q : Option Value → jm → Prop} {N : Nat} {xs : Nat → Int32} (hA0 : A 0 = some (N, xs)) (hN : N ≤ 4000) {M : jm} {L L2 S i : Int} (cv : CV M L S) (rv : RV M L2 S) (rd : RDA M M) (hS : 0 ≤ S ∧ S ≤ 900000) (hL : 0 ≤ L ∧ L ≤ 1900000000) (hL2 : 0 ≤ L2 ∧ L2 ≤ 1900000000) (hi : 0 ≤ i ∧ i + 6 ≤ N) (k : ∀ (M' : jm) (S' : Int), S ≤ S' → S' ≤ S + 1000 → CV M' (L + 1000000) S' → RV M' (L2 + 2689623) S' → RDA M' M' → jr A 364 xm_law 1328 [(3, .int (Int32.ofInt (i))), (2, .ref (598)), (1, .ref (0)), (0, .ref (1000000))] [] M' Q) : jr A 364 xm_law 1078 [(3, .int (Int32.ofInt (i))), (2, .ref (598)), (1, .ref (0)), (0, .ref (1000000))] [] M Q := by
  have hC_M := cv.1
  have hne := cv.2.2.2.1
  have hz4 := cv.2.2.2.2.1
  have hS8 := cv.2.2.2.2.2
  refine jr.aload_n rfl rfl ?_
  refine jr.aload_n rfl rfl ?_
  refine jr.iload_n rfl rfl ?_
  refine jr.iconst rfl ?_
  refine jr.iadd rfl ?_
  obtain ⟨v1, e1⟩ : ∃ z_, (xs (i + 1).toNat).toInt = z_ := ⟨_, rfl⟩
  have b1 : -2147483648 ≤ v1 ∧ v1 ≤ 2147483647 := by rw [← e1]; exact jb_any _
  refine jr.ials (i := (i + 1)) v1 rfl (by decide) hA0 (by omega) (by omega) (by omega) (by rw [← e1]; exact (Int32.ofInt_toInt _).symm) ?_
  refine jr_v rfl rfl (Or.inl rfl) rfl rfl (nlt rfl) rfl ⟨rfl, Nat.le_of_ble_eq_true rfl, Nat.le_of_ble_eq_true rfl⟩ rfl (jc.deep (c_PacketWall_logged cv.1 (by omega) (fun r2 z2  => ?_)) (Nat.le_of_ble_eq_true rfl))
  refine jr.pop2 rfl ?_
  refine jr.aload_n rfl rfl ?_
  refine jr.aload_n rfl rfl ?_
  refine jr.iload_n rfl rfl ?_
  refine jr.iconst rfl ?_
  refine jr.iadd rfl ?_
  refine jr.ials (i := (i + 1)) v1 rfl (by decide) hA0 (by omega) (by omega) (by omega) (by rw [← e1]; exact (Int32.ofInt_toInt _).symm) ?_
  refine jr_v rfl rfl (Or.inl rfl) rfl rfl (nlt rfl) rfl ⟨rfl, Nat.le_of_ble_eq_true rfl, Nat.le_of_ble_eq_true rfl⟩ rfl (jc.deep (r_logged_x rv.1 rv.2.1 rv.2.2.1 (by omega) (fun r3 M3 hI hH hF z3 hf => ?_)) (Nat.le_of_ble_eq_true rfl))
  have cv2 : CV M3 L S := cv.z (fun a i ha => hf a i (by omega))
  have rv2 : RV M3 L2 S := ⟨hI, hH, hF, (RG1.fr rv.2.2.2.1 (fun a i ha => hf a i (rG_ne ha rfl))), by rw [show M3 650 = M 650 from funext (fun i => hf 650 i (nne rfl))]; exact rv.2.2.2.2.1, (MC.fr rv.2.2.2.2.2.1 (fun i => hf 652 i (nne rfl)) (fun i => hf 653 i (nne rfl)) (fun i => hf 654 i (nne rfl)) (fun i => hf 655 i (nne rfl)) (hf 598 82 (nne rfl))), (AS.fr rv.2.2.2.2.2.2.1 (fun i => hf 685 i (nne rfl)) (hf 598 112 (nne rfl))), ((hf 598 2 (nne rfl)).trans rv.2.2.2.2.2.2.2.1), X7.fr rv.2.2.2.2.2.2.2.2 (fun i => hf 647 i (nne rfl))⟩
  have rd2 : RDA M3 M3 := (oq_logged rd rv.2.2.2.1 rv.1  hf ).c (fun a i ha => hf a i (by omega))
  refine jr.pop2 rfl ?_
  refine jr.goto rfl rfl ?_
  exact k _ _ (Int.le_refl _) (by omega) (cv2.le (by omega)) (rv2.le (by omega)) rd2
theorem lop_31 {A : Nat → Option (Nat × (Nat → Int32))} [HA A] {Q : Option Value → jm → Prop} {N : Nat} {xs : Nat → Int32} (hA0 : A 0 = some (N, xs)) (hN : N ≤ 4000) {M : jm} {L L2 S i : Int} (cv : CV M L S) (rv : RV M L2 S) (rd : RDA M M) (hS : 0 ≤ S ∧ S ≤ 900000) (hL : 0 ≤ L ∧ L ≤ 1900000000) (hL2 : 0 ≤ L2 ∧ L2 ≤ 1900000000) (hi : 0 ≤ i ∧ i + 6 ≤ N) (k : ∀ (M' : jm) (S' : Int), S ≤ S' → S' ≤ S + 1000 → CV M' (L + 1000000) S' → RV M' (L2 + 2689623) S' → RDA M' M' → jr A 364 xm_law 1328 [(3, .int (Int32.ofInt (i))), (2, .ref (598)), (1, .ref (0)), (0, .ref (1000000))] [] M' Q) : jr A 364 xm_law 1101 [(3, .int (Int32.ofInt (i))), (2, .ref (598)), (1, .ref (0)), (0, .ref (1000000))] [] M Q := by
  have hC_M := cv.1
  have hne := cv.2.2.2.1
  have hz4 := cv.2.2.2.2.1
  have hS8 := cv.2.2.2.2.2
  refine jr.aload_n rfl rfl ?_
  refine jr.aload_n rfl rfl ?_
  refine jr.iload_n rfl rfl ?_
  refine jr.iconst rfl ?_
  refine jr.iadd rfl ?_
  obtain ⟨v1, e1⟩ : ∃ z_, (xs (i + 1).toNat).toInt = z_ := ⟨_, rfl⟩
  have b1 : -2147483648 ≤ v1 ∧ v1 ≤ 2147483647 := by rw [← e1]; exact jb_any _
  refine jr.ials (i := (i + 1)) v1 rfl (by decide) hA0 (by omega) (by omega) (by omega) (by rw [← e1]; exact (Int32.ofInt_toInt _).symm) ?_
  refine jr.aload_n rfl rfl ?_
  refine jr.iload_n rfl rfl ?_
  refine jr.iconst rfl ?_
  refine jr.iadd rfl ?_
  obtain ⟨v2, e2⟩ : ∃ z_, (xs (i + 2).toNat).toInt = z_ := ⟨_, rfl⟩
  have b2 : -2147483648 ≤ v2 ∧ v2 ≤ 2147483647 := by rw [← e2]; exact jb_any _
  refine jr.ials (i := (i + 2)) v2 rfl (by decide) hA0 (by omega) (by omega) (by omega) (by rw [← e2]; exact (Int32.ofInt_toInt _).symm) ?_
  refine jr_v rfl rfl (Or.inl rfl) rfl rfl (nlt rfl) rfl ⟨rfl, Nat.le_of_ble_eq_true rfl, Nat.le_of_ble_eq_true rfl⟩ rfl (jc.deep (c_PacketWall_learned cv.1 (by omega) (by omega) (fun r3 z3  => ?_)) (Nat.le_of_ble_eq_true rfl))
  refine jr.pop2 rfl ?_
  refine jr.aload_n rfl rfl ?_
  refine jr.aload_n rfl rfl ?_
  refine jr.iload_n rfl rfl ?_
  refine jr.iconst rfl ?_
  refine jr.iadd rfl ?_
  refine jr.ials (i := (i + 1)) v1 rfl (by decide) hA0 (by omega) (by omega) (by omega) (by rw [← e1]; exact (Int32.ofInt_toInt _).symm) ?_
  refine jr.aload_n rfl rfl ?_
  refine jr.iload_n rfl rfl ?_
  refine jr.iconst rfl ?_
  refine jr.iadd rfl ?_
  refine jr.ials (i := (i + 2)) v2 rfl (by decide) hA0 (by omega) (by omega) (by omega) (by rw [← e2]; exact (Int32.ofInt_toInt _).symm) ?_
  refine jr_v rfl rfl (Or.inl rfl) rfl rfl (nlt rfl) rfl ⟨rfl, Nat.le_of_ble_eq_true rfl, Nat.le_of_ble_eq_true rfl⟩ rfl (jc.deep (r_learned_x rv.1 rv.2.1 rv.2.2.1 (by omega) (by omega) (fun r4 M4 hI hH hF z4 hf => ?_)) (Nat.le_of_ble_eq_true rfl))
  have cv2 : CV M4 L S := cv.z (fun a i ha => hf a i (by omega))
  have rv2 : RV M4 L2 S := ⟨hI, hH, hF, (RG1.fr rv.2.2.2.1 (fun a i ha => hf a i (rG_ne ha rfl))), by rw [show M4 650 = M 650 from funext (fun i => hf 650 i (nne rfl))]; exact rv.2.2.2.2.1, (MC.fr rv.2.2.2.2.2.1 (fun i => hf 652 i (nne rfl)) (fun i => hf 653 i (nne rfl)) (fun i => hf 654 i (nne rfl)) (fun i => hf 655 i (nne rfl)) (hf 598 82 (nne rfl))), (AS.fr rv.2.2.2.2.2.2.1 (fun i => hf 685 i (nne rfl)) (hf 598 112 (nne rfl))), ((hf 598 2 (nne rfl)).trans rv.2.2.2.2.2.2.2.1), X7.fr rv.2.2.2.2.2.2.2.2 (fun i => hf 647 i (nne rfl))⟩
  have rd2 : RDA M4 M4 := (oq_learned rd rv.2.2.2.1 rv.1  hf ).c (fun a i ha => hf a i (by omega))
  refine jr.pop2 rfl ?_
  refine jr.goto rfl rfl ?_
  exact k _ _ (Int.le_refl _) (by omega) (cv2.le (by omega)) (rv2.le (by omega)) rd2
theorem lop_32 {A : Nat → Option (Nat × (Nat → Int32))} [HA A] {Q : Option Value → jm → Prop} {N : Nat} {xs : Nat → Int32} (hA0 : A 0 = some (N, xs)) (hN : N ≤ 4000) {M : jm} {L L2 S i : Int} (cv : CV M L S) (rv : RV M L2 S) (rd : RDA M M) (hS : 0 ≤ S ∧ S ≤ 900000) (hL : 0 ≤ L ∧ L ≤ 1900000000) (hL2 : 0 ≤ L2 ∧ L2 ≤ 1900000000) (hi : 0 ≤ i ∧ i + 6 ≤ N) (k : ∀ (M' : jm) (S' : Int), S ≤ S' → S' ≤ S + 1000 → CV M' (L + 1000000) S' → RV M' (L2 + 2689623) S' → RDA M' M' → jr A 364 xm_law 1328 [(3, .int (Int32.ofInt (i))), (2, .ref (598)), (1, .ref (0)), (0, .ref (1000000))] [] M' Q) : jr A 364 xm_law 1134 [(3, .int (Int32.ofInt (i))), (2, .ref (598)), (1, .ref (0)), (0, .ref (1000000))] [] M Q := by
  have hC_M := cv.1
  have hne := cv.2.2.2.1
  have hz4 := cv.2.2.2.2.1
  have hS8 := cv.2.2.2.2.2
  refine jr.aload_n rfl rfl ?_
  refine jr.aload_n rfl rfl ?_
  refine jr.iload_n rfl rfl ?_
  refine jr.iconst rfl ?_
  refine jr.iadd rfl ?_
  obtain ⟨v1, e1⟩ : ∃ z_, (xs (i + 1).toNat).toInt = z_ := ⟨_, rfl⟩
  have b1 : -2147483648 ≤ v1 ∧ v1 ≤ 2147483647 := by rw [← e1]; exact jb_any _
  refine jr.ials (i := (i + 1)) v1 rfl (by decide) hA0 (by omega) (by omega) (by omega) (by rw [← e1]; exact (Int32.ofInt_toInt _).symm) ?_
  refine jr.aload_n rfl rfl ?_
  refine jr.iload_n rfl rfl ?_
  refine jr.iconst rfl ?_
  refine jr.iadd rfl ?_
  obtain ⟨v2, e2⟩ : ∃ z_, (xs (i + 2).toNat).toInt = z_ := ⟨_, rfl⟩
  have b2 : -2147483648 ≤ v2 ∧ v2 ≤ 2147483647 := by rw [← e2]; exact jb_any _
  refine jr.ials (i := (i + 2)) v2 rfl (by decide) hA0 (by omega) (by omega) (by omega) (by rw [← e2]; exact (Int32.ofInt_toInt _).symm) ?_
  refine jr.aload_n rfl rfl ?_
  refine jr.iload_n rfl rfl ?_
  refine jr.iconst rfl ?_
  refine jr.iadd rfl ?_
  obtain ⟨v3, e3⟩ : ∃ z_, (xs (i + 3).toNat).toInt = z_ := ⟨_, rfl⟩
  have b3 : -2147483648 ≤ v3 ∧ v3 ≤ 2147483647 := by rw [← e3]; exact jb_any _
  refine jr.ials (i := (i + 3)) v3 rfl (by decide) hA0 (by omega) (by omega) (by omega) (by rw [← e3]; exact (Int32.ofInt_toInt _).symm) ?_
  refine jr_v rfl rfl (Or.inl rfl) rfl rfl (nlt rfl) rfl ⟨rfl, Nat.le_of_ble_eq_true rfl, Nat.le_of_ble_eq_true rfl⟩ rfl (jc.deep (c_PacketWall_bucket cv.1 (FR.rfl _ M) (by omega) (by omega) (by omega) (fun r4 M4 hC_M4 hf_M4 z4  => ?_)) (Nat.le_of_ble_eq_true rfl))
  have cv1 : CV M4 L S := ⟨hC_M4, (cv.2.1.fr hf_M4 rfl), (cv.2.2.1.fr cv.1 hf_M4 rfl), (by rw [hf_M4.g (show kd 413 = 44 from rfl) rfl, hf_M4.g (show kd 421 = 22 from rfl) rfl]; exact cv.2.2.2.1), ((hf_M4.g (show kd 421 = 22 from rfl) rfl).trans cv.2.2.2.2.1), ((hf_M4.g (show kd 0 = 35 from rfl) rfl).trans cv.2.2.2.2.2)⟩
  have rv1 : RV M4 L2 S := RV.tr rv (fun a i ha => hf_M4.g (kd_hi ha) rfl)
  have rd1 : RDA M M4 := rd.rr rv.2.2.2.1 rv.1 (fun a i ha => hf_M4.g (kd_hi ha) rfl)
  refine jr.pop rfl rfl ?_
  refine jr.aload_n rfl rfl ?_
  refine jr.aload_n rfl rfl ?_
  refine jr.iload_n rfl rfl ?_
  refine jr.iconst rfl ?_
  refine jr.iadd rfl ?_
  refine jr.ials (i := (i + 1)) v1 rfl (by decide) hA0 (by omega) (by omega) (by omega) (by rw [← e1]; exact (Int32.ofInt_toInt _).symm) ?_
  refine jr.aload_n rfl rfl ?_
  refine jr.iload_n rfl rfl ?_
  refine jr.iconst rfl ?_
  refine jr.iadd rfl ?_
  refine jr.ials (i := (i + 2)) v2 rfl (by decide) hA0 (by omega) (by omega) (by omega) (by rw [← e2]; exact (Int32.ofInt_toInt _).symm) ?_
  refine jr.aload_n rfl rfl ?_
  refine jr.iload_n rfl rfl ?_
  refine jr.iconst rfl ?_
  refine jr.iadd rfl ?_
  refine jr.ials (i := (i + 3)) v3 rfl (by decide) hA0 (by omega) (by omega) (by omega) (by rw [← e3]; exact (Int32.ofInt_toInt _).symm) ?_
  refine jr_v rfl rfl (Or.inl rfl) rfl rfl (nlt rfl) rfl ⟨rfl, Nat.le_of_ble_eq_true rfl, Nat.le_of_ble_eq_true rfl⟩ rfl (jc.deep (r_bucket_x rv1.1 rv1.2.1 rv1.2.2.1 (by omega) (by omega) (by omega) (fun r5 M5 hI hH hF z5 hf => ?_)) (Nat.le_of_ble_eq_true rfl))
  have cv2 : CV M5 L S := cv1.z (fun a i ha => hf a i (by omega) (by omega) (by omega) (by omega))
  have rv2 : RV M5 L2 S := ⟨hI, hH, hF, (RG1.fr rv1.2.2.2.1 (fun a i ha => hf a i (rG_ne ha rfl) (rG_ne ha rfl) (rG_ne ha rfl) (rG_ne ha rfl))), by rw [show M5 650 = M4 650 from funext (fun i => hf 650 i (nne rfl) (nne rfl) (nne rfl) (nne rfl))]; exact rv1.2.2.2.2.1, (MC.fr rv1.2.2.2.2.2.1 (fun i => hf 652 i (nne rfl) (nne rfl) (nne rfl) (nne rfl)) (fun i => hf 653 i (nne rfl) (nne rfl) (nne rfl) (nne rfl)) (fun i => hf 654 i (nne rfl) (nne rfl) (nne rfl) (nne rfl)) (fun i => hf 655 i (nne rfl) (nne rfl) (nne rfl) (nne rfl)) (hf 598 82 (nne rfl) (nne rfl) (nne rfl) (nne rfl))), (AS.fr rv1.2.2.2.2.2.2.1 (fun i => hf 685 i (nne rfl) (nne rfl) (nne rfl) (nne rfl)) (hf 598 112 (nne rfl) (nne rfl) (nne rfl) (nne rfl))), ((hf 598 2 (nne rfl) (nne rfl) (nne rfl) (nne rfl)).trans rv1.2.2.2.2.2.2.2.1), X7.fr rv1.2.2.2.2.2.2.2.2 (fun i => hf 647 i (nne rfl) (nne rfl) (nne rfl) (nne rfl))⟩
  have rd2 : RDA M5 M5 := (oq_bucket rd1 rv1.2.2.2.1 rv1.1 hf_M4 hf ).c (fun a i ha => hf a i (by omega) (by omega) (by omega) (by omega))
  refine jr.pop rfl rfl ?_
  refine jr.goto rfl rfl ?_
  exact k _ _ (Int.le_refl _) (by omega) (cv2.le (by omega)) (rv2.le (by omega)) rd2
theorem lop_33 {A : Nat → Option (Nat × (Nat → Int32))} [HA A] {Q : Option Value → jm → Prop} {N : Nat} {xs : Nat → Int32} (hA0 : A 0 = some (N, xs)) (hN : N ≤ 4000) {M : jm} {L L2 S i : Int} (cv : CV M L S) (rv : RV M L2 S) (rd : RDA M M) (hS : 0 ≤ S ∧ S ≤ 900000) (hL : 0 ≤ L ∧ L ≤ 1900000000) (hL2 : 0 ≤ L2 ∧ L2 ≤ 1900000000) (hi : 0 ≤ i ∧ i + 6 ≤ N) (k : ∀ (M' : jm) (S' : Int), S ≤ S' → S' ≤ S + 1000 → CV M' (L + 1000000) S' → RV M' (L2 + 2689623) S' → RDA M' M' → jr A 364 xm_law 1328 [(3, .int (Int32.ofInt (i))), (2, .ref (598)), (1, .ref (0)), (0, .ref (1000000))] [] M' Q) : jr A 364 xm_law 1177 [(3, .int (Int32.ofInt (i))), (2, .ref (598)), (1, .ref (0)), (0, .ref (1000000))] [] M Q := by
  have hC_M := cv.1
  have hne := cv.2.2.2.1
  have hz4 := cv.2.2.2.2.1
  have hS8 := cv.2.2.2.2.2
  refine jr.aload_n rfl rfl ?_
  refine jr.aload_n rfl rfl ?_
  refine jr.iload_n rfl rfl ?_
  refine jr.iconst rfl ?_
  refine jr.iadd rfl ?_
  obtain ⟨v1, e1⟩ : ∃ z_, (xs (i + 1).toNat).toInt = z_ := ⟨_, rfl⟩
  have b1 : -2147483648 ≤ v1 ∧ v1 ≤ 2147483647 := by rw [← e1]; exact jb_any _
  refine jr.ials (i := (i + 1)) v1 rfl (by decide) hA0 (by omega) (by omega) (by omega) (by rw [← e1]; exact (Int32.ofInt_toInt _).symm) ?_
  refine jr_v rfl rfl (Or.inl rfl) rfl rfl (nlt rfl) rfl ⟨rfl, Nat.le_of_ble_eq_true rfl, Nat.le_of_ble_eq_true rfl⟩ rfl (jc.deep (c_PacketWall_has cv.1 (by omega) (fun r2 z2  => ?_)) (Nat.le_of_ble_eq_true rfl))
  refine jr.pop rfl rfl ?_
  refine jr.aload_n rfl rfl ?_
  refine jr.aload_n rfl rfl ?_
  refine jr.iload_n rfl rfl ?_
  refine jr.iconst rfl ?_
  refine jr.iadd rfl ?_
  refine jr.ials (i := (i + 1)) v1 rfl (by decide) hA0 (by omega) (by omega) (by omega) (by rw [← e1]; exact (Int32.ofInt_toInt _).symm) ?_
  refine jr_v rfl rfl (Or.inl rfl) rfl rfl (nlt rfl) rfl ⟨rfl, Nat.le_of_ble_eq_true rfl, Nat.le_of_ble_eq_true rfl⟩ rfl (jc.deep (r_has_x rv.1 rv.2.1 rv.2.2.1 (by omega) (fun r3 M3 hI hH hF z3 hf => ?_)) (Nat.le_of_ble_eq_true rfl))
  have cv2 : CV M3 L S := cv.z (fun a i ha => hf a i (by omega))
  have rv2 : RV M3 L2 S := ⟨hI, hH, hF, (RG1.fr rv.2.2.2.1 (fun a i ha => hf a i (rG_ne ha rfl))), by rw [show M3 650 = M 650 from funext (fun i => hf 650 i (nne rfl))]; exact rv.2.2.2.2.1, (MC.fr rv.2.2.2.2.2.1 (fun i => hf 652 i (nne rfl)) (fun i => hf 653 i (nne rfl)) (fun i => hf 654 i (nne rfl)) (fun i => hf 655 i (nne rfl)) (hf 598 82 (nne rfl))), (AS.fr rv.2.2.2.2.2.2.1 (fun i => hf 685 i (nne rfl)) (hf 598 112 (nne rfl))), ((hf 598 2 (nne rfl)).trans rv.2.2.2.2.2.2.2.1), X7.fr rv.2.2.2.2.2.2.2.2 (fun i => hf 647 i (nne rfl))⟩
  have rd2 : RDA M3 M3 := (oq_has rd rv.2.2.2.1 rv.1  hf ).c (fun a i ha => hf a i (by omega))
  refine jr.pop rfl rfl ?_
  refine jr.goto rfl rfl ?_
  exact k _ _ (Int.le_refl _) (by omega) (cv2.le (by omega)) (rv2.le (by omega)) rd2
theorem lop_34 {A : Nat → Option (Nat × (Nat → Int32))} [HA A] {Q : Option Value → jm → Prop} {N : Nat} {xs : Nat → Int32} (hA0 : A 0 = some (N, xs)) (hN : N ≤ 4000) {M : jm} {L L2 S i : Int} (cv : CV M L S) (rv : RV M L2 S) (rd : RDA M M) (hS : 0 ≤ S ∧ S ≤ 900000) (hL : 0 ≤ L ∧ L ≤ 1900000000) (hL2 : 0 ≤ L2 ∧ L2 ≤ 1900000000) (hi : 0 ≤ i ∧ i + 6 ≤ N) (k : ∀ (M' : jm) (S' : Int), S ≤ S' → S' ≤ S + 1000 → CV M' (L + 1000000) S' → RV M' (L2 + 2689623) S' → RDA M' M' → jr A 364 xm_law 1328 [(3, .int (Int32.ofInt (i))), (2, .ref (598)), (1, .ref (0)), (0, .ref (1000000))] [] M' Q) : jr A 364 xm_law 1200 [(3, .int (Int32.ofInt (i))), (2, .ref (598)), (1, .ref (0)), (0, .ref (1000000))] [] M Q := by
  have hC_M := cv.1
  have hne := cv.2.2.2.1
  have hz4 := cv.2.2.2.2.1
  have hS8 := cv.2.2.2.2.2
  refine jr.aload_n rfl rfl ?_
  refine jr.aload_n rfl rfl ?_
  refine jr.iload_n rfl rfl ?_
  refine jr.iconst rfl ?_
  refine jr.iadd rfl ?_
  obtain ⟨v1, e1⟩ : ∃ z_, (xs (i + 1).toNat).toInt = z_ := ⟨_, rfl⟩
  have b1 : -2147483648 ≤ v1 ∧ v1 ≤ 2147483647 := by rw [← e1]; exact jb_any _
  refine jr.ials (i := (i + 1)) v1 rfl (by decide) hA0 (by omega) (by omega) (by omega) (by rw [← e1]; exact (Int32.ofInt_toInt _).symm) ?_
  refine jr.aload_n rfl rfl ?_
  refine jr.iload_n rfl rfl ?_
  refine jr.iconst rfl ?_
  refine jr.iadd rfl ?_
  obtain ⟨v2, e2⟩ : ∃ z_, (xs (i + 2).toNat).toInt = z_ := ⟨_, rfl⟩
  have b2 : -2147483648 ≤ v2 ∧ v2 ≤ 2147483647 := by rw [← e2]; exact jb_any _
  refine jr.ials (i := (i + 2)) v2 rfl (by decide) hA0 (by omega) (by omega) (by omega) (by rw [← e2]; exact (Int32.ofInt_toInt _).symm) ?_
  refine jr_v rfl rfl (Or.inl rfl) rfl rfl (nlt rfl) rfl ⟨rfl, Nat.le_of_ble_eq_true rfl, Nat.le_of_ble_eq_true rfl⟩ rfl (jc.deep (c_PacketWall_rowAt cv.1 (by omega) (by omega) (fun r3 z3  => ?_)) (Nat.le_of_ble_eq_true rfl))
  refine jr.pop2 rfl ?_
  refine jr.aload_n rfl rfl ?_
  refine jr.aload_n rfl rfl ?_
  refine jr.iload_n rfl rfl ?_
  refine jr.iconst rfl ?_
  refine jr.iadd rfl ?_
  refine jr.ials (i := (i + 1)) v1 rfl (by decide) hA0 (by omega) (by omega) (by omega) (by rw [← e1]; exact (Int32.ofInt_toInt _).symm) ?_
  refine jr.aload_n rfl rfl ?_
  refine jr.iload_n rfl rfl ?_
  refine jr.iconst rfl ?_
  refine jr.iadd rfl ?_
  refine jr.ials (i := (i + 2)) v2 rfl (by decide) hA0 (by omega) (by omega) (by omega) (by rw [← e2]; exact (Int32.ofInt_toInt _).symm) ?_
  refine jr_v rfl rfl (Or.inl rfl) rfl rfl (nlt rfl) rfl ⟨rfl, Nat.le_of_ble_eq_true rfl, Nat.le_of_ble_eq_true rfl⟩ rfl (jc.deep (r_rowAt_x rv.1 rv.2.1 rv.2.2.1 (by omega) (by omega) (fun r4 M4 hI hH hF z4 hf => ?_)) (Nat.le_of_ble_eq_true rfl))
  have cv2 : CV M4 L S := cv.z (fun a i ha => hf a i (by omega))
  have rv2 : RV M4 L2 S := ⟨hI, hH, hF, (RG1.fr rv.2.2.2.1 (fun a i ha => hf a i (rG_ne ha rfl))), by rw [show M4 650 = M 650 from funext (fun i => hf 650 i (nne rfl))]; exact rv.2.2.2.2.1, (MC.fr rv.2.2.2.2.2.1 (fun i => hf 652 i (nne rfl)) (fun i => hf 653 i (nne rfl)) (fun i => hf 654 i (nne rfl)) (fun i => hf 655 i (nne rfl)) (hf 598 82 (nne rfl))), (AS.fr rv.2.2.2.2.2.2.1 (fun i => hf 685 i (nne rfl)) (hf 598 112 (nne rfl))), ((hf 598 2 (nne rfl)).trans rv.2.2.2.2.2.2.2.1), X7.fr rv.2.2.2.2.2.2.2.2 (fun i => hf 647 i (nne rfl))⟩
  have rd2 : RDA M4 M4 := (oq_rowAt rd rv.2.2.2.1 rv.1  hf ).c (fun a i ha => hf a i (by omega))
  refine jr.pop2 rfl ?_
  refine jr.goto rfl rfl ?_
  exact k _ _ (Int.le_refl _) (by omega) (cv2.le (by omega)) (rv2.le (by omega)) rd2
theorem lop_35 {A : Nat → Option (Nat × (Nat → Int32))} [HA A] {Q : Option Value → jm → Prop} {N : Nat} {xs : Nat → Int32} (hA0 : A 0 = some (N, xs)) (hN : N ≤ 4000) {M : jm} {L L2 S i : Int} (cv : CV M L S) (rv : RV M L2 S) (rd : RDA M M) (hS : 0 ≤ S ∧ S ≤ 900000) (hL : 0 ≤ L ∧ L ≤ 1900000000) (hL2 : 0 ≤ L2 ∧ L2 ≤ 1900000000) (hi : 0 ≤ i ∧ i + 6 ≤ N) (k : ∀ (M' : jm) (S' : Int), S ≤ S' → S' ≤ S + 1000 → CV M' (L + 1000000) S' → RV M' (L2 + 2689623) S' → RDA M' M' → jr A 364 xm_law 1328 [(3, .int (Int32.ofInt (i))), (2, .ref (598)), (1, .ref (0)), (0, .ref (1000000))] [] M' Q) : jr A 364 xm_law 1233 [(3, .int (Int32.ofInt (i))), (2, .ref (598)), (1, .ref (0)), (0, .ref (1000000))] [] M Q := by
  have hC_M := cv.1
  have hne := cv.2.2.2.1
  have hz4 := cv.2.2.2.2.1
  have hS8 := cv.2.2.2.2.2
  refine jr.aload_n rfl rfl ?_
  refine jr.aload_n rfl rfl ?_
  refine jr.iload_n rfl rfl ?_
  refine jr.iconst rfl ?_
  refine jr.iadd rfl ?_
  obtain ⟨v1, e1⟩ : ∃ z_, (xs (i + 1).toNat).toInt = z_ := ⟨_, rfl⟩
  have b1 : -2147483648 ≤ v1 ∧ v1 ≤ 2147483647 := by rw [← e1]; exact jb_any _
  refine jr.ials (i := (i + 1)) v1 rfl (by decide) hA0 (by omega) (by omega) (by omega) (by rw [← e1]; exact (Int32.ofInt_toInt _).symm) ?_
  refine jr_v rfl rfl (Or.inl rfl) rfl rfl (nlt rfl) rfl ⟨rfl, Nat.le_of_ble_eq_true rfl, Nat.le_of_ble_eq_true rfl⟩ rfl (jc.deep (c_PacketWall_mark cv.1 (by omega) (fun r2 z2  => ?_)) (Nat.le_of_ble_eq_true rfl))
  refine jr.pop2 rfl ?_
  refine jr.aload_n rfl rfl ?_
  refine jr.aload_n rfl rfl ?_
  refine jr.iload_n rfl rfl ?_
  refine jr.iconst rfl ?_
  refine jr.iadd rfl ?_
  refine jr.ials (i := (i + 1)) v1 rfl (by decide) hA0 (by omega) (by omega) (by omega) (by rw [← e1]; exact (Int32.ofInt_toInt _).symm) ?_
  refine jr_v rfl rfl (Or.inl rfl) rfl rfl (nlt rfl) rfl ⟨rfl, Nat.le_of_ble_eq_true rfl, Nat.le_of_ble_eq_true rfl⟩ rfl (jc.deep (r_mark_335_x rv.1 rv.2.1 rv.2.2.1 (by omega) (fun r3 M3 hI hH hF z3 hf => ?_)) (Nat.le_of_ble_eq_true rfl))
  have cv2 : CV M3 L S := cv.z (fun a i ha => hf a i (by omega))
  have rv2 : RV M3 L2 S := ⟨hI, hH, hF, (RG1.fr rv.2.2.2.1 (fun a i ha => hf a i (rG_ne ha rfl))), by rw [show M3 650 = M 650 from funext (fun i => hf 650 i (nne rfl))]; exact rv.2.2.2.2.1, (MC.fr rv.2.2.2.2.2.1 (fun i => hf 652 i (nne rfl)) (fun i => hf 653 i (nne rfl)) (fun i => hf 654 i (nne rfl)) (fun i => hf 655 i (nne rfl)) (hf 598 82 (nne rfl))), (AS.fr rv.2.2.2.2.2.2.1 (fun i => hf 685 i (nne rfl)) (hf 598 112 (nne rfl))), ((hf 598 2 (nne rfl)).trans rv.2.2.2.2.2.2.2.1), X7.fr rv.2.2.2.2.2.2.2.2 (fun i => hf 647 i (nne rfl))⟩
  have rd2 : RDA M3 M3 := (oq_mark rd rv.2.2.2.1 rv.1  hf ).c (fun a i ha => hf a i (by omega))
  refine jr.pop2 rfl ?_
  refine jr.goto rfl rfl ?_
  exact k _ _ (Int.le_refl _) (by omega) (cv2.le (by omega)) (rv2.le (by omega)) rd2
theorem lop_36 {A : Nat → Option (Nat × (Nat → Int32))} [HA A] {Q : Option Value → jm → Prop} {N : Nat} {xs : Nat → Int32} (hA0 : A 0 = some (N, xs)) (hN : N ≤ 4000) {M : jm} {L L2 S i : Int} (cv : CV M L S) (rv : RV M L2 S) (rd : RDA M M) (hS : 0 ≤ S ∧ S ≤ 900000) (hL : 0 ≤ L ∧ L ≤ 1900000000) (hL2 : 0 ≤ L2 ∧ L2 ≤ 1900000000) (hi : 0 ≤ i ∧ i + 6 ≤ N) (k : ∀ (M' : jm) (S' : Int), S ≤ S' → S' ≤ S + 1000 → CV M' (L + 1000000) S' → RV M' (L2 + 2689623) S' → RDA M' M' → jr A 364 xm_law 1328 [(3, .int (Int32.ofInt (i))), (2, .ref (598)), (1, .ref (0)), (0, .ref (1000000))] [] M' Q) : jr A 364 xm_law 1256 [(3, .int (Int32.ofInt (i))), (2, .ref (598)), (1, .ref (0)), (0, .ref (1000000))] [] M Q := by
  have hC_M := cv.1
  have hne := cv.2.2.2.1
  have hz4 := cv.2.2.2.2.1
  have hS8 := cv.2.2.2.2.2
  refine jr.aload_n rfl rfl ?_
  refine jr_v rfl rfl (Or.inl rfl) rfl rfl (nlt rfl) rfl ⟨rfl, Nat.le_of_ble_eq_true rfl, Nat.le_of_ble_eq_true rfl⟩ rfl (jc.deep (c_PacketWall_export_x cv.1 (FR.rfl _ M) rfl rfl rfl (by omega) (fun r1 M1 hC_M1 hf_M1 z1 w1_0 => ?_)) (Nat.le_of_ble_eq_true rfl))
  have cv1 : CV M1 L S := ⟨hC_M1, (cv.2.1.fr hf_M1 rfl), (cv.2.2.1.fr cv.1 hf_M1 rfl), (by rw [hf_M1.g (show kd 413 = 44 from rfl) rfl, hf_M1.g (show kd 421 = 22 from rfl) rfl]; exact cv.2.2.2.1), ((hf_M1.g (show kd 421 = 22 from rfl) rfl).trans cv.2.2.2.2.1), ((hf_M1.g (show kd 0 = 35 from rfl) rfl).trans cv.2.2.2.2.2)⟩
  have rv1 : RV M1 L2 S := RV.tr rv (fun a i ha => hf_M1.g (kd_hi ha) rfl)
  have rd1 : RDA M M1 := rd.rr rv.2.2.2.1 rv.1 (fun a i ha => hf_M1.g (kd_hi ha) rfl)
  refine jr.pop rfl rfl ?_
  refine jr.aload_n rfl rfl ?_
  refine jr_v rfl rfl (Or.inl rfl) rfl rfl (nlt rfl) rfl ⟨rfl, Nat.le_of_ble_eq_true rfl, Nat.le_of_ble_eq_true rfl⟩ rfl (jc.deep (r_export_x rv1.1 rv1.2.1 rv1.2.2.1 (fun r2 M2 hI hH hF z2 w2 hf hk => ?_)) (Nat.le_of_ble_eq_true rfl))
  have cv2 : CV M2 L S := cv1.z (fun a i ha => hf a i (by omega) (by omega))
  have rv2 : RV M2 L2 S := ⟨hI, hH, hF, (RG1.fr rv1.2.2.2.1 (fun a i ha => hf a i (rG_ne ha rfl) (rG_ne ha rfl))), by rw [show M2 650 = M1 650 from funext (fun i => hf 650 i (nne rfl) (nne rfl))]; exact rv1.2.2.2.2.1, (MC.fr rv1.2.2.2.2.2.1 (fun i => hf 652 i (nne rfl) (nne rfl)) (fun i => hf 653 i (nne rfl) (nne rfl)) (fun i => hf 654 i (nne rfl) (nne rfl)) (fun i => hf 655 i (nne rfl) (nne rfl)) (hk 82 (zne rfl))), (AS.fr rv1.2.2.2.2.2.2.1 (fun i => hf 685 i (nne rfl) (nne rfl)) (hk 112 (zne rfl))), ((hk 2 (zne rfl)).trans rv1.2.2.2.2.2.2.2.1), X7.fr rv1.2.2.2.2.2.2.2.2 (fun i => hf 647 i (nne rfl) (nne rfl))⟩
  have ho := op_export rd1 rv1.2.2.2.1 rv1.1 (hS8.trans rv1.2.2.2.2.2.2.2.1.symm) hf_M1 ⟨w1_0.1, w1_0.2.1⟩ w2 hf hk
  have rd2 : RDA M2 M2 := ho.1.c (fun a i ha => hf a i (by omega) (by omega))
  have heq : r1 = r2 := ho.2
  refine jr.pop rfl rfl ?_
  refine jr.goto rfl rfl ?_
  exact k _ _ (Int.le_refl _) (by omega) (cv2.le (by omega)) (rv2.le (by omega)) rd2
theorem lop_37 {A : Nat → Option (Nat × (Nat → Int32))} [HA A] {Q : Option Value → jm → Prop} {N : Nat} {xs : Nat → Int32} (hA0 : A 0 = some (N, xs)) (hN : N ≤ 4000) {M : jm} {L L2 S i : Int} (cv : CV M L S) (rv : RV M L2 S) (rd : RDA M M) (hS : 0 ≤ S ∧ S ≤ 900000) (hL : 0 ≤ L ∧ L ≤ 1900000000) (hL2 : 0 ≤ L2 ∧ L2 ≤ 1900000000) (hi : 0 ≤ i ∧ i + 6 ≤ N) (k : ∀ (M' : jm) (S' : Int), S ≤ S' → S' ≤ S + 1000 → CV M' (L + 1000000) S' → RV M' (L2 + 2689623) S' → RDA M' M' → jr A 364 xm_law 1328 [(3, .int (Int32.ofInt (i))), (2, .ref (598)), (1, .ref (0)), (0, .ref (1000000))] [] M' Q) : jr A 364 xm_law 1269 [(3, .int (Int32.ofInt (i))), (2, .ref (598)), (1, .ref (0)), (0, .ref (1000000))] [] M Q := by
  have hC_M := cv.1
  have hne := cv.2.2.2.1
  have hz4 := cv.2.2.2.2.1
  have hS8 := cv.2.2.2.2.2
  refine jr.aload_n rfl rfl ?_
  refine jr_v rfl rfl (Or.inl rfl) rfl rfl (nlt rfl) rfl ⟨rfl, Nat.le_of_ble_eq_true rfl, Nat.le_of_ble_eq_true rfl⟩ rfl (jc.deep (c_PacketWall_restore_x cv.1 (FR.rfl _ M) rfl rfl rfl rfl rfl (by omega) rd.2.2.2.2.2.1.1.2 (fun r1 M1 hC_M1 hf_M1 z1 w1_0 w1_1 => ?_)) (Nat.le_of_ble_eq_true rfl))
  have cv1 : CV M1 L S := ⟨hC_M1, (cv.2.1.fr hf_M1 rfl), (cv.2.2.1.fr cv.1 hf_M1 rfl), (by rw [hf_M1.g (show kd 413 = 44 from rfl) rfl, hf_M1.g (show kd 421 = 22 from rfl) rfl]; exact cv.2.2.2.1), ((hf_M1.g (show kd 421 = 22 from rfl) rfl).trans cv.2.2.2.2.1), ((hf_M1.g (show kd 0 = 35 from rfl) rfl).trans cv.2.2.2.2.2)⟩
  have rv1 : RV M1 L2 S := RV.tr rv (fun a i ha => hf_M1.g (kd_hi ha) rfl)
  have rd1 : RDA M M1 := rd.rr rv.2.2.2.1 rv.1 (fun a i ha => hf_M1.g (kd_hi ha) rfl)
  refine jr.pop rfl rfl ?_
  refine jr.aload_n rfl rfl ?_
  refine jr_v rfl rfl (Or.inl rfl) rfl rfl (nlt rfl) rfl ⟨rfl, Nat.le_of_ble_eq_true rfl, Nat.le_of_ble_eq_true rfl⟩ rfl (jc.deep (r_restore_x rv1.1 rv1.2.1 rv1.2.2.1 (fun r2 M2 hI hH hF z2 w2 hf hk => ?_)) (Nat.le_of_ble_eq_true rfl))
  have cv2 : CV M2 L S := cv1.z (fun a i ha => hf a i (by omega) (by omega) (by omega) (by omega) (by omega) (by omega) (by omega) (by omega) (by omega) (by omega) (by omega) (by omega) (by omega) (by omega) (by omega))
  have rv2 : RV M2 L2 S := ⟨hI, hH, hF, (RG1.fr rv1.2.2.2.1 (fun a i ha => hf a i (rG_ne ha rfl) (rG_ne ha rfl) (rG_ne ha rfl) (rG_ne ha rfl) (rG_ne ha rfl) (rG_ne ha rfl) (rG_ne ha rfl) (rG_ne ha rfl) (rG_ne ha rfl) (rG_ne ha rfl) (rG_ne ha rfl) (rG_ne ha rfl) (rG_ne ha rfl) (rG_ne ha rfl) (rG_ne ha rfl))), by rw [show M2 650 = M1 650 from funext (fun i => hf 650 i (nne rfl) (nne rfl) (nne rfl) (nne rfl) (nne rfl) (nne rfl) (nne rfl) (nne rfl) (nne rfl) (nne rfl) (nne rfl) (nne rfl) (nne rfl) (nne rfl) (nne rfl))]; exact rv1.2.2.2.2.1, (MC.fr rv1.2.2.2.2.2.1 (fun i => hf 652 i (nne rfl) (nne rfl) (nne rfl) (nne rfl) (nne rfl) (nne rfl) (nne rfl) (nne rfl) (nne rfl) (nne rfl) (nne rfl) (nne rfl) (nne rfl) (nne rfl) (nne rfl)) (fun i => hf 653 i (nne rfl) (nne rfl) (nne rfl) (nne rfl) (nne rfl) (nne rfl) (nne rfl) (nne rfl) (nne rfl) (nne rfl) (nne rfl) (nne rfl) (nne rfl) (nne rfl) (nne rfl)) (fun i => hf 654 i (nne rfl) (nne rfl) (nne rfl) (nne rfl) (nne rfl) (nne rfl) (nne rfl) (nne rfl) (nne rfl) (nne rfl) (nne rfl) (nne rfl) (nne rfl) (nne rfl) (nne rfl)) (fun i => hf 655 i (nne rfl) (nne rfl) (nne rfl) (nne rfl) (nne rfl) (nne rfl) (nne rfl) (nne rfl) (nne rfl) (nne rfl) (nne rfl) (nne rfl) (nne rfl) (nne rfl) (nne rfl)) (hk 82 (zne rfl))), (AS.fr rv1.2.2.2.2.2.2.1 (fun i => hf 685 i (nne rfl) (nne rfl) (nne rfl) (nne rfl) (nne rfl) (nne rfl) (nne rfl) (nne rfl) (nne rfl) (nne rfl) (nne rfl) (nne rfl) (nne rfl) (nne rfl) (nne rfl)) (hk 112 (zne rfl))), ((hk 2 (zne rfl)).trans rv1.2.2.2.2.2.2.2.1), X7.fr rv1.2.2.2.2.2.2.2.2 (fun i => hf 647 i (nne rfl) (nne rfl) (nne rfl) (nne rfl) (nne rfl) (nne rfl) (nne rfl) (nne rfl) (nne rfl) (nne rfl) (nne rfl) (nne rfl) (nne rfl) (nne rfl) (nne rfl))⟩
  have ho := op_restore rd1 rv1.2.2.2.1 rv1.1 (hS8.trans rv1.2.2.2.2.2.2.2.1.symm) hf_M1 w1_1 w1_0 w2 hf hk
  have rd2 : RDA M2 M2 := ho.1.c (fun a i ha => hf a i (by omega) (by omega) (by omega) (by omega) (by omega) (by omega) (by omega) (by omega) (by omega) (by omega) (by omega) (by omega) (by omega) (by omega) (by omega))
  have heq : r1 = r2 := ho.2
  refine jr.pop rfl rfl ?_
  refine jr.goto rfl rfl ?_
  exact k _ _ (Int.le_refl _) (by omega) (cv2.le (by omega)) (rv2.le (by omega)) rd2
theorem lop_38 {A : Nat → Option (Nat × (Nat → Int32))} [HA A] {Q : Option Value → jm → Prop} {N : Nat} {xs : Nat → Int32} (hA0 : A 0 = some (N, xs)) (hN : N ≤ 4000) {M : jm} {L L2 S i : Int} (cv : CV M L S) (rv : RV M L2 S) (rd : RDA M M) (hS : 0 ≤ S ∧ S ≤ 900000) (hL : 0 ≤ L ∧ L ≤ 1900000000) (hL2 : 0 ≤ L2 ∧ L2 ≤ 1900000000) (hi : 0 ≤ i ∧ i + 6 ≤ N) (k : ∀ (M' : jm) (S' : Int), S ≤ S' → S' ≤ S + 1000 → CV M' (L + 1000000) S' → RV M' (L2 + 2689623) S' → RDA M' M' → jr A 364 xm_law 1328 [(3, .int (Int32.ofInt (i))), (2, .ref (598)), (1, .ref (0)), (0, .ref (1000000))] [] M' Q) : jr A 364 xm_law 1282 [(3, .int (Int32.ofInt (i))), (2, .ref (598)), (1, .ref (0)), (0, .ref (1000000))] [] M Q := by
  have hC_M := cv.1
  have hne := cv.2.2.2.1
  have hz4 := cv.2.2.2.2.1
  have hS8 := cv.2.2.2.2.2
  refine jr.aload_n rfl rfl ?_
  refine jr.aload_n rfl rfl ?_
  refine jr.iload_n rfl rfl ?_
  refine jr.iconst rfl ?_
  refine jr.iadd rfl ?_
  obtain ⟨v1, e1⟩ : ∃ z_, (xs (i + 1).toNat).toInt = z_ := ⟨_, rfl⟩
  have b1 : -2147483648 ≤ v1 ∧ v1 ≤ 2147483647 := by rw [← e1]; exact jb_any _
  refine jr.ials (i := (i + 1)) v1 rfl (by decide) hA0 (by omega) (by omega) (by omega) (by rw [← e1]; exact (Int32.ofInt_toInt _).symm) ?_
  refine jr_v rfl rfl (Or.inl rfl) rfl rfl (nlt rfl) rfl ⟨rfl, Nat.le_of_ble_eq_true rfl, Nat.le_of_ble_eq_true rfl⟩ rfl (jc.deep (c_PacketWall_tape_x cv.1 (by omega) rfl (fun r2 z2 w2_0 => ?_)) (Nat.le_of_ble_eq_true rfl))
  refine jr.aload_n rfl rfl ?_
  refine jr.aload_n rfl rfl ?_
  refine jr.iload_n rfl rfl ?_
  refine jr.iconst rfl ?_
  refine jr.iadd rfl ?_
  refine jr.ials (i := (i + 1)) v1 rfl (by decide) hA0 (by omega) (by omega) (by omega) (by rw [← e1]; exact (Int32.ofInt_toInt _).symm) ?_
  refine jr_v rfl rfl (Or.inl rfl) rfl rfl (nlt rfl) rfl ⟨rfl, Nat.le_of_ble_eq_true rfl, Nat.le_of_ble_eq_true rfl⟩ rfl (jc.deep (r_tape_x rv.1 rv.2.1 rv.2.2.1 (by omega) (fun r3 M3 hI hH hF z3 w3 hM hf hk => ?_)) (Nat.le_of_ble_eq_true rfl))
  have cv2 : CV M3 L S := by rw [hM]; exact cv
  have rv2 : RV M3 L2 S := by rw [hM]; exact rv
  have heq : r2 = r3 := op_tape rd w2_0 w3
  have rd2 : RDA M3 M3 := by rw [hM]; exact rd
  refine jr.icmp_eq rfl rfl (by first | (refine rgb (by assumption) ?_; exact rfl) | omega) (by first | (refine rgb (by assumption) ?_; exact rfl) | omega) (fun h1300 => ?_) (fun h => absurd heq h)
  exact k _ _ (Int.le_refl _) (by omega) (cv2.le (by omega)) (rv2.le (by omega)) rd2
theorem lop_39 {A : Nat → Option (Nat × (Nat → Int32))} [HA A] {Q : Option Value → jm → Prop} {N : Nat} {xs : Nat → Int32} (hA0 : A 0 = some (N, xs)) (hN : N ≤ 4000) {M : jm} {L L2 S i : Int} (cv : CV M L S) (rv : RV M L2 S) (rd : RDA M M) (hS : 0 ≤ S ∧ S ≤ 900000) (hL : 0 ≤ L ∧ L ≤ 1900000000) (hL2 : 0 ≤ L2 ∧ L2 ≤ 1900000000) (hi : 0 ≤ i ∧ i + 6 ≤ N) (k : ∀ (M' : jm) (S' : Int), S ≤ S' → S' ≤ S + 1000 → CV M' (L + 1000000) S' → RV M' (L2 + 2689623) S' → RDA M' M' → jr A 364 xm_law 1328 [(3, .int (Int32.ofInt (i))), (2, .ref (598)), (1, .ref (0)), (0, .ref (1000000))] [] M' Q) : jr A 364 xm_law 1305 [(3, .int (Int32.ofInt (i))), (2, .ref (598)), (1, .ref (0)), (0, .ref (1000000))] [] M Q := by
  have hC_M := cv.1
  have hne := cv.2.2.2.1
  have hz4 := cv.2.2.2.2.1
  have hS8 := cv.2.2.2.2.2
  refine jr.aload_n rfl rfl ?_
  refine jr.aload_n rfl rfl ?_
  refine jr.iload_n rfl rfl ?_
  refine jr.iconst rfl ?_
  refine jr.iadd rfl ?_
  obtain ⟨v1, e1⟩ : ∃ z_, (xs (i + 1).toNat).toInt = z_ := ⟨_, rfl⟩
  have b1 : -2147483648 ≤ v1 ∧ v1 ≤ 2147483647 := by rw [← e1]; exact jb_any _
  refine jr.ials (i := (i + 1)) v1 rfl (by decide) hA0 (by omega) (by omega) (by omega) (by rw [← e1]; exact (Int32.ofInt_toInt _).symm) ?_
  refine jr_v rfl rfl (Or.inl rfl) rfl rfl (nlt rfl) rfl ⟨rfl, Nat.le_of_ble_eq_true rfl, Nat.le_of_ble_eq_true rfl⟩ rfl (jc.deep (c_PacketWall_told cv.1 (by omega) (fun r2 z2  => ?_)) (Nat.le_of_ble_eq_true rfl))
  refine jr.pop rfl rfl ?_
  refine jr.aload_n rfl rfl ?_
  refine jr.aload_n rfl rfl ?_
  refine jr.iload_n rfl rfl ?_
  refine jr.iconst rfl ?_
  refine jr.iadd rfl ?_
  refine jr.ials (i := (i + 1)) v1 rfl (by decide) hA0 (by omega) (by omega) (by omega) (by rw [← e1]; exact (Int32.ofInt_toInt _).symm) ?_
  refine jr_v rfl rfl (Or.inl rfl) rfl rfl (nlt rfl) rfl ⟨rfl, Nat.le_of_ble_eq_true rfl, Nat.le_of_ble_eq_true rfl⟩ rfl (jc.deep (r_told_x rv.1 rv.2.1 rv.2.2.1 (by omega) (fun r3 M3 hI hH hF z3 hf => ?_)) (Nat.le_of_ble_eq_true rfl))
  have cv2 : CV M3 L S := cv.z (fun a i ha => hf a i (by omega))
  have rv2 : RV M3 L2 S := ⟨hI, hH, hF, (RG1.fr rv.2.2.2.1 (fun a i ha => hf a i (rG_ne ha rfl))), by rw [show M3 650 = M 650 from funext (fun i => hf 650 i (nne rfl))]; exact rv.2.2.2.2.1, (MC.fr rv.2.2.2.2.2.1 (fun i => hf 652 i (nne rfl)) (fun i => hf 653 i (nne rfl)) (fun i => hf 654 i (nne rfl)) (fun i => hf 655 i (nne rfl)) (hf 598 82 (nne rfl))), (AS.fr rv.2.2.2.2.2.2.1 (fun i => hf 685 i (nne rfl)) (hf 598 112 (nne rfl))), ((hf 598 2 (nne rfl)).trans rv.2.2.2.2.2.2.2.1), X7.fr rv.2.2.2.2.2.2.2.2 (fun i => hf 647 i (nne rfl))⟩
  have rd2 : RDA M3 M3 := (oq_told rd rv.2.2.2.1 rv.1  hf ).c (fun a i ha => hf a i (by omega))
  refine jr.pop rfl rfl ?_
  refine jr.goto rfl rfl ?_
  exact k _ _ (Int.le_refl _) (by omega) (cv2.le (by omega)) (rv2.le (by omega)) rd2
end
section
/-! ===== the class's invariants hold behind the constructors ===== -/
noncomputable def okp (q : Option (Int × Int)) : Prop := (q.getD (-9223372036854775808, 9223372036854775807)).1 ≤ (q.getD (-9223372036854775808, 9223372036854775807)).2
theorem okp_n : okp none := by unfold okp; decide
theorem okp_s {a b : Int} (h : a ≤ b) : okp (some (a, b)) := h
theorem okp_c {c : Bool} {a b : Option (Int × Int)} (h1 : okp a) (h2 : okp b) : okp (bif c then a else b) := by
  cases c
  · exact h2
  · exact h1
theorem ok_cio_1 (j : Nat) : okp (cio_1 j) := by
  unfold cio_1
  repeat' (first | exact okp_n | exact okp_s (by decide) | refine okp_c ?_ ?_)
theorem ok_cio_9 (j : Nat) : okp (cio_9 j) := by
  unfold cio_9
  repeat' (first | exact okp_n | exact okp_s (by decide) | refine okp_c ?_ ?_)
theorem ok_cio_14 (j : Nat) : okp (cio_14 j) := by
  unfold cio_14
  repeat' (first | exact okp_n | exact okp_s (by decide) | refine okp_c ?_ ?_)
theorem ok_cio_15_0 (j : Nat) : okp (cio_15_0 j) := by
  unfold cio_15_0
  repeat' (first | exact okp_n | exact okp_s (by decide) | refine okp_c ?_ ?_)
theorem ok_cio_15_1 (j : Nat) : okp (cio_15_1 j) := by
  unfold cio_15_1
  repeat' (first | exact okp_n | exact okp_s (by decide) | refine okp_c ?_ ?_)
theorem ok_cio_15 (j : Nat) : okp (cio_15 j) := by
  unfold cio_15
  repeat' (first | exact okp_n | exact okp_s (by decide) | exact ok_cio_15_0 j | exact ok_cio_15_1 j | refine okp_c ?_ ?_)
theorem ok_cio_18 (j : Nat) : okp (cio_18 j) := by
  unfold cio_18
  repeat' (first | exact okp_n | exact okp_s (by decide) | refine okp_c ?_ ?_)
theorem ok_cio_22_0 (j : Nat) : okp (cio_22_0 j) := by
  unfold cio_22_0
  repeat' (first | exact okp_n | exact okp_s (by decide) | refine okp_c ?_ ?_)
theorem ok_cio_22_1 (j : Nat) : okp (cio_22_1 j) := by
  unfold cio_22_1
  repeat' (first | exact okp_n | exact okp_s (by decide) | refine okp_c ?_ ?_)
theorem ok_cio_22 (j : Nat) : okp (cio_22 j) := by
  unfold cio_22
  repeat' (first | exact okp_n | exact okp_s (by decide) | exact ok_cio_22_0 j | exact ok_cio_22_1 j | refine okp_c ?_ ?_)
theorem ok_cio_27 (j : Nat) : okp (cio_27 j) := by
  unfold cio_27
  repeat' (first | exact okp_n | exact okp_s (by decide) | refine okp_c ?_ ?_)
theorem ok_cio_33 (j : Nat) : okp (cio_33 j) := by
  unfold cio_33
  repeat' (first | exact okp_n | exact okp_s (by decide) | refine okp_c ?_ ?_)
theorem ok_cio_35 (j : Nat) : okp (cio_35 j) := by
  unfold cio_35
  repeat' (first | exact okp_n | exact okp_s (by decide) | refine okp_c ?_ ?_)
theorem ok_cio_44_0 (j : Nat) : okp (cio_44_0 j) := by
  unfold cio_44_0
  repeat' (first | exact okp_n | exact okp_s (by decide) | refine okp_c ?_ ?_)
theorem ok_cio_44_1 (j : Nat) : okp (cio_44_1 j) := by
  unfold cio_44_1
  repeat' (first | exact okp_n | exact okp_s (by decide) | refine okp_c ?_ ?_)
theorem ok_cio_44 (j : Nat) : okp (cio_44 j) := by
  unfold cio_44
  repeat' (first | exact okp_n | exact okp_s (by decide) | exact ok_cio_44_0 j | exact ok_cio_44_1 j | refine okp_c ?_ ?_)
theorem ok_cio_47 (j : Nat) : okp (cio_47 j) := by
  unfold cio_47
  repeat' (first | exact okp_n | exact okp_s (by decide) | refine okp_c ?_ ?_)
theorem ok_cio_52 (j : Nat) : okp (cio_52 j) := by
  unfold cio_52
  repeat' (first | exact okp_n | exact okp_s (by decide) | refine okp_c ?_ ?_)
theorem ok_cir_0 (j : Nat) : okp (cir_0 j) := by
  unfold cir_0
  repeat' (first | exact okp_n | exact okp_s (by decide) | refine okp_c ?_ ?_)
theorem ok_cir_1 (j : Nat) : okp (cir_1 j) := by
  unfold cir_1
  repeat' (first | exact okp_n | exact okp_s (by decide) | refine okp_c ?_ ?_)
theorem ok_cir_2 (j : Nat) : okp (cir_2 j) := by
  unfold cir_2
  repeat' (first | exact okp_n | exact okp_s (by decide) | refine okp_c ?_ ?_)
theorem ok_cir_3 (j : Nat) : okp (cir_3 j) := by
  unfold cir_3
  repeat' (first | exact okp_n | exact okp_s (by decide) | refine okp_c ?_ ?_)
theorem ok_cir (j : Nat) : okp (cir j) := by
  unfold cir
  repeat' (first | exact okp_n | exact okp_s (by decide) | exact ok_cir_0 j | exact ok_cir_1 j | exact ok_cir_2 j | exact ok_cir_3 j | refine okp_c ?_ ?_)
theorem ok_cio (K j : Nat) : okp (cio K j) := by
  unfold cio
  repeat' (first | exact okp_n | exact ok_cio_1 j | exact ok_cio_9 j | exact ok_cio_14 j | exact ok_cio_15 j | exact ok_cio_18 j | exact ok_cio_22 j | exact ok_cio_27 j | exact ok_cio_33 j | exact ok_cio_35 j | exact ok_cio_44 j | exact ok_cio_47 j | exact ok_cio_52 j | refine okp_c ?_ ?_)
theorem ci_ok (K : Nat) (i : Int) : (ci K i).1 ≤ (ci K i).2 := by
  unfold ci
  cases Nat.beq K 24
  · show (bif cob K then (cio K i.toNat).getD (-9223372036854775808, 9223372036854775807) else (cir K).getD (-9223372036854775808, 9223372036854775807)).1 ≤ (bif cob K then (cio K i.toNat).getD (-9223372036854775808, 9223372036854775807) else (cir K).getD (-9223372036854775808, 9223372036854775807)).2
    cases cob K
    · exact ok_cir K
    · exact ok_cio K i.toNat
  · show (bif Nat.beq i.toNat 4 then ((0 : Int), (40 : Int)) else (-2147483648, 2147483647)).1 ≤ (bif Nat.beq i.toNat 4 then ((0 : Int), (40 : Int)) else (-2147483648, 2147483647)).2
    cases Nat.beq i.toNat 4 <;> decide
theorem ci_row {K : Nat} (h : cob K = false) (h2 : ((cir K).getD (-9223372036854775808, 9223372036854775807)).1 ≤ 0 ∧ 0 ≤ ((cir K).getD (-9223372036854775808, 9223372036854775807)).2) (i : Int) : (ci K i).1 ≤ 0 ∧ 0 ≤ (ci K i).2 := by
  unfold ci
  cases Nat.beq K 24
  · show (bif cob K then (cio K i.toNat).getD (-9223372036854775808, 9223372036854775807) else (cir K).getD (-9223372036854775808, 9223372036854775807)).1 ≤ 0 ∧ 0 ≤ (bif cob K then (cio K i.toNat).getD (-9223372036854775808, 9223372036854775807) else (cir K).getD (-9223372036854775808, 9223372036854775807)).2
    rw [h]
    exact h2
  · show (bif Nat.beq i.toNat 4 then ((0 : Int), (40 : Int)) else (-2147483648, 2147483647)).1 ≤ 0 ∧ 0 ≤ (bif Nat.beq i.toNat 4 then ((0 : Int), (40 : Int)) else (-2147483648, 2147483647)).2
    cases Nat.beq i.toNat 4 <;> decide
theorem ci_nat (K : Nat) (i : Int) : ci K i = ci K (Int.ofNat i.toNat) := rfl
theorem cxk_nat (K : Nat) (i : Int) : cxk K i = cxk K (Int.ofNat i.toNat) := rfl
theorem cxk_lt {K : Nat} {i : Int} (h : cxk K i ≠ 0) : i.toNat < 13 := by
  rcases Nat.lt_or_ge i.toNat 13 with q | q
  · exact q
  · exfalso
    apply h
    unfold cxk
    rw [jne0 (show 7 < i.toNat by omega), jne0 (show 2 < i.toNat by omega), jne0 (show 12 < i.toNat by omega)]
    cases Nat.beq K 18 <;> cases Nat.beq K 22 <;> cases Nat.beq K 44 <;> rfl
noncomputable def m0o (c : ix_C) : Bool := match c with
  | .inr _ => true
  | .inl _ => false
noncomputable def M1 : jm := fun a i => bif Nat.blt a 598 then (bif m0o (xh0 a) && Nat.ble (m0n (xh0 a)) i.toNat then (ci (kd a) i).1 else jp0 (xh0 a) i.toNat) else M0 a i
theorem M1_hi {a : Nat} (h : 598 ≤ a) (i : Int) : M1 a i = M0 a i := by
  unfold M1
  rw [jnb h]
  rfl
theorem M1_lo {a : Nat} (h : a < 598) (i : Int) : M1 a i = (bif m0o (xh0 a) && Nat.ble (m0n (xh0 a)) i.toNat then (ci (kd a) i).1 else jp0 (xh0 a) i.toNat) := by
  unfold M1
  rw [Nat.blt_eq.mpr h]
  rfl
theorem M1_n {a : Nat} (j : Nat) (h : a < 598 → m0o (xh0 a) = true → j < m0n (xh0 a)) : M1 a (j : Int) = M0 a (j : Int) := by
  rcases Nat.lt_or_ge a 598 with ha | ha
  · rw [M1_lo ha, show ((j : Int)).toNat = j from rfl]
    rw [show (m0o (xh0 a) && Nat.ble (m0n (xh0 a)) j) = false from by
      cases e : m0o (xh0 a) with
      | false => rfl
      | true =>
        cases hb : Nat.ble (m0n (xh0 a)) j with
        | false => rfl
        | true =>
          have h1 := Nat.ble_eq.mp hb
          have h2 := h ha e
          omega]
    exact (M0_in (by omega) j).symm
  · exact M1_hi ha _
theorem sh0 : ∀ a, a < 598 → m0o (xh0 a) = true → 100 ≤ (xsh a).1 ∧ (xsh a).2 ≤ m0n (xh0 a) := by decide +kernel
theorem jcell_ext {a : Nat} {s : Nat × Nat} {f g : Int → Int} (h : ∀ j : Nat, (100 ≤ s.1 → j < s.2) → f (j : Int) = g (j : Int)) : jcell a s f = jcell a s g := by
  rcases Nat.lt_or_ge s.1 100 with hs | hs
  · have e : ∀ j : Nat, f (j : Int) = g (j : Int) := fun j => h j (fun q => absurd hs (Nat.not_lt.mpr q))
    unfold jcell
    simp only [e]
  · obtain ⟨s1, n⟩ := s
    obtain ⟨c, rfl⟩ : ∃ c, s1 = 100 + c := ⟨s1 - 100, by have hq : 100 ≤ s1 := hs; omega⟩
    rw [jcell_obj, jcell_obj]
    have e : (List.range n).map (fun j => jval a j ((xT_D c).2 j).1 (f (j : Nat))) = (List.range n).map (fun j => jval a j ((xT_D c).2 j).1 (g (j : Nat))) := List.map_congr_left (fun j hj => by rw [h j (fun _ => List.mem_range.mp hj)])
    rw [e]
theorem jH_M1 : jH M1 = jH M0 := by
  have e : jh M1 = jh M0 := by
    funext a
    unfold jh
    refine jcell_ext (fun j hj => M1_n j (fun ha ho => ?_))
    have q := sh0 a ha ho
    have q2 := hj q.1
    omega
  show (xNc, xNs_, jh M1) = (xNc, xNs_, jh M0)
  rw [e]
noncomputable def m0zA : List Nat := [1, 8, 12, 13, 415, 416, 430, 431, 435, 442, 445, 448, 451, 454, 457, 460, 463, 466, 527, 529, 531, 533, 535, 537, 539, 541, 543, 545, 547, 549, 551, 553, 555, 557, 559, 561, 563, 565, 567, 569, 571, 573, 575, 576, 578, 579, 581, 582, 584, 585, 587, 588, 590, 591, 593, 594, 596, 597]
theorem m0zA_ok : ∀ a ∈ m0zA, m0o (xh0 a) = false ∧ ∀ j : Nat, jp0 (xh0 a) j = 0 := List.forall_mem_cons.mpr ⟨⟨rfl, m0zI (a := 1) (t := 0) (n := 1600) rfl⟩, List.forall_mem_cons.mpr ⟨⟨rfl, m0zI (a := 8) (t := 0) (n := 400) rfl⟩, List.forall_mem_cons.mpr ⟨⟨rfl, m0zI (a := 12) (t := 0) (n := 360) rfl⟩, List.forall_mem_cons.mpr ⟨⟨rfl, m0zI (a := 13) (t := 0) (n := 400) rfl⟩, List.forall_mem_cons.mpr ⟨⟨rfl, m0zI (a := 415) (t := 0) (n := 932) rfl⟩, List.forall_mem_cons.mpr ⟨⟨rfl, m0zI (a := 416) (t := 0) (n := 932) rfl⟩, List.forall_mem_cons.mpr ⟨⟨rfl, m0zI (a := 430) (t := 0) (n := 932) rfl⟩, List.forall_mem_cons.mpr ⟨⟨rfl, m0zI (a := 431) (t := 0) (n := 932) rfl⟩, List.forall_mem_cons.mpr ⟨⟨rfl, m0zL (a := 435) (t := 1) (n := 320) rfl⟩, List.forall_mem_cons.mpr ⟨⟨rfl, m0zI (a := 442) (t := 0) (n := 400) rfl⟩, List.forall_mem_cons.mpr ⟨⟨rfl, m0zL (a := 445) (t := 1) (n := 440) rfl⟩, List.forall_mem_cons.mpr ⟨⟨rfl, m0zL (a := 448) (t := 1) (n := 440) rfl⟩, List.forall_mem_cons.mpr ⟨⟨rfl, m0zL (a := 451) (t := 1) (n := 440) rfl⟩, List.forall_mem_cons.mpr ⟨⟨rfl, m0zL (a := 454) (t := 1) (n := 440) rfl⟩, List.forall_mem_cons.mpr ⟨⟨rfl, m0zL (a := 457) (t := 1) (n := 440) rfl⟩, List.forall_mem_cons.mpr ⟨⟨rfl, m0zL (a := 460) (t := 1) (n := 440) rfl⟩, List.forall_mem_cons.mpr ⟨⟨rfl, m0zL (a := 463) (t := 1) (n := 440) rfl⟩, List.forall_mem_cons.mpr ⟨⟨rfl, m0zL (a := 466) (t := 1) (n := 440) rfl⟩, List.forall_mem_cons.mpr ⟨⟨rfl, m0zI (a := 527) (t := 0) (n := 400) rfl⟩, List.forall_mem_cons.mpr ⟨⟨rfl, m0zI (a := 529) (t := 0) (n := 400) rfl⟩, List.forall_mem_cons.mpr ⟨⟨rfl, m0zI (a := 531) (t := 0) (n := 400) rfl⟩, List.forall_mem_cons.mpr ⟨⟨rfl, m0zI (a := 533) (t := 0) (n := 400) rfl⟩, List.forall_mem_cons.mpr ⟨⟨rfl, m0zI (a := 535) (t := 0) (n := 400) rfl⟩, List.forall_mem_cons.mpr ⟨⟨rfl, m0zI (a := 537) (t := 0) (n := 400) rfl⟩, List.forall_mem_cons.mpr ⟨⟨rfl, m0zI (a := 539) (t := 0) (n := 400) rfl⟩, List.forall_mem_cons.mpr ⟨⟨rfl, m0zI (a := 541) (t := 0) (n := 400) rfl⟩, List.forall_mem_cons.mpr ⟨⟨rfl, m0zI (a := 543) (t := 0) (n := 400) rfl⟩, List.forall_mem_cons.mpr ⟨⟨rfl, m0zI (a := 545) (t := 0) (n := 400) rfl⟩, List.forall_mem_cons.mpr ⟨⟨rfl, m0zI (a := 547) (t := 0) (n := 400) rfl⟩, List.forall_mem_cons.mpr ⟨⟨rfl, m0zI (a := 549) (t := 0) (n := 400) rfl⟩, List.forall_mem_cons.mpr ⟨⟨rfl, m0zI (a := 551) (t := 0) (n := 400) rfl⟩, List.forall_mem_cons.mpr ⟨⟨rfl, m0zI (a := 553) (t := 0) (n := 400) rfl⟩, List.forall_mem_cons.mpr ⟨⟨rfl, m0zI (a := 555) (t := 0) (n := 400) rfl⟩, List.forall_mem_cons.mpr ⟨⟨rfl, m0zI (a := 557) (t := 0) (n := 400) rfl⟩, List.forall_mem_cons.mpr ⟨⟨rfl, m0zI (a := 559) (t := 0) (n := 400) rfl⟩, List.forall_mem_cons.mpr ⟨⟨rfl, m0zI (a := 561) (t := 0) (n := 400) rfl⟩, List.forall_mem_cons.mpr ⟨⟨rfl, m0zI (a := 563) (t := 0) (n := 400) rfl⟩, List.forall_mem_cons.mpr ⟨⟨rfl, m0zI (a := 565) (t := 0) (n := 400) rfl⟩, List.forall_mem_cons.mpr ⟨⟨rfl, m0zI (a := 567) (t := 0) (n := 400) rfl⟩, List.forall_mem_cons.mpr ⟨⟨rfl, m0zI (a := 569) (t := 0) (n := 400) rfl⟩, List.forall_mem_cons.mpr ⟨⟨rfl, m0zI (a := 571) (t := 0) (n := 400) rfl⟩, List.forall_mem_cons.mpr ⟨⟨rfl, m0zI (a := 573) (t := 0) (n := 400) rfl⟩, List.forall_mem_cons.mpr ⟨⟨rfl, m0zI (a := 575) (t := 0) (n := 360) rfl⟩, List.forall_mem_cons.mpr ⟨⟨rfl, m0zI (a := 576) (t := 0) (n := 400) rfl⟩, List.forall_mem_cons.mpr ⟨⟨rfl, m0zI (a := 578) (t := 0) (n := 360) rfl⟩, List.forall_mem_cons.mpr ⟨⟨rfl, m0zI (a := 579) (t := 0) (n := 400) rfl⟩, List.forall_mem_cons.mpr ⟨⟨rfl, m0zI (a := 581) (t := 0) (n := 360) rfl⟩, List.forall_mem_cons.mpr ⟨⟨rfl, m0zI (a := 582) (t := 0) (n := 400) rfl⟩, List.forall_mem_cons.mpr ⟨⟨rfl, m0zI (a := 584) (t := 0) (n := 360) rfl⟩, List.forall_mem_cons.mpr ⟨⟨rfl, m0zI (a := 585) (t := 0) (n := 400) rfl⟩, List.forall_mem_cons.mpr ⟨⟨rfl, m0zI (a := 587) (t := 0) (n := 360) rfl⟩, List.forall_mem_cons.mpr ⟨⟨rfl, m0zI (a := 588) (t := 0) (n := 400) rfl⟩, List.forall_mem_cons.mpr ⟨⟨rfl, m0zI (a := 590) (t := 0) (n := 360) rfl⟩, List.forall_mem_cons.mpr ⟨⟨rfl, m0zI (a := 591) (t := 0) (n := 400) rfl⟩, List.forall_mem_cons.mpr ⟨⟨rfl, m0zI (a := 593) (t := 0) (n := 360) rfl⟩, List.forall_mem_cons.mpr ⟨⟨rfl, m0zI (a := 594) (t := 0) (n := 400) rfl⟩, List.forall_mem_cons.mpr ⟨⟨rfl, m0zI (a := 596) (t := 0) (n := 360) rfl⟩, List.forall_mem_cons.mpr ⟨⟨rfl, m0zI (a := 597) (t := 0) (n := 400) rfl⟩, fun _ h => absurd h List.not_mem_nil⟩⟩⟩⟩⟩⟩⟩⟩⟩⟩⟩⟩⟩⟩⟩⟩⟩⟩⟩⟩⟩⟩⟩⟩⟩⟩⟩⟩⟩⟩⟩⟩⟩⟩⟩⟩⟩⟩⟩⟩⟩⟩⟩⟩⟩⟩⟩⟩⟩⟩⟩⟩⟩⟩⟩⟩⟩⟩
theorem ci_z : (List.range 598).all (fun a => (m0o (xh0 a) || (!(cob (kd a)) && decide (((cir (kd a)).getD (-9223372036854775808, 9223372036854775807)).1 ≤ 0 ∧ (0 : Int) ≤ ((cir (kd a)).getD (-9223372036854775808, 9223372036854775807)).2))) && (m0zA.any (fun b => Nat.beq a b) || (List.range (m0n (xh0 a))).all (fun j => decide ((ci (kd a) (Int.ofNat j)).1 ≤ jp0 (xh0 a) j ∧ jp0 (xh0 a) j ≤ (ci (kd a) (Int.ofNat j)).2)))) = true := by decide +kernel
theorem cx_z : (List.range 598).all (fun a => (List.range 13).all (fun j => Nat.beq (cxk (kd a) (Int.ofNat j)) 0 || (Nat.blt j (m0n (xh0 a)) && Nat.beq (kd (jp0 (xh0 a) j).toNat) (cxk (kd a) (Int.ofNat j))))) = true := by decide +kernel
theorem M1_CI : CI M1 := by
  refine ⟨fun a i hk => ?_, fun a i hk => ?_⟩
  · have ha := kd_lt hk
    rw [M1_lo ha]
    cases hb : (m0o (xh0 a) && Nat.ble (m0n (xh0 a)) i.toNat) with
    | true => exact ⟨Int.le_refl _, ci_ok _ _⟩
    | false =>
      show (ci (kd a) i).1 ≤ jp0 (xh0 a) i.toNat ∧ jp0 (xh0 a) i.toNat ≤ (ci (kd a) i).2
      have q := List.all_eq_true.mp ci_z a (List.mem_range.mpr ha)
      rw [Bool.and_eq_true] at q
      rcases Nat.lt_or_ge i.toNat (m0n (xh0 a)) with hj | hj
      · have q2 := q.2
        rw [Bool.or_eq_true] at q2
        rcases q2 with q2 | q2
        · obtain ⟨b, hb2, e⟩ := List.any_eq_true.mp q2
          have z := m0zA_ok b hb2
          rw [← Nat.eq_of_beq_eq_true e] at z
          rw [z.2 i.toNat]
          have q3 := q.1
          rw [z.1, Bool.false_or, Bool.and_eq_true] at q3
          have q1 : cob (kd a) = false := by
            cases e2 : cob (kd a) with
            | false => rfl
            | true => rw [e2] at q3; exact absurd q3.1 (by decide)
          exact ci_row q1 (of_decide_eq_true q3.2) i
        · rw [ci_nat (kd a) i]
          exact of_decide_eq_true (List.all_eq_true.mp q2 i.toNat (List.mem_range.mpr hj))
      · rw [jp0_out hj]
        have ho : m0o (xh0 a) = false := by
          cases e : m0o (xh0 a) with
          | false => rfl
          | true => rw [e, Nat.ble_eq.mpr hj] at hb; exact absurd hb (by decide)
        rw [ho, Bool.false_or, Bool.and_eq_true] at q
        have q1 : cob (kd a) = false := by
          cases e : cob (kd a) with
          | false => rfl
          | true => rw [e] at q; exact absurd q.1.1 (by decide)
        exact ci_row q1 (of_decide_eq_true q.1.2) i
  · have hj := cxk_lt hk
    have ha : a < 598 := kd_lt (fun e => hk (by rw [e]; rfl))
    have q := List.all_eq_true.mp (List.all_eq_true.mp cx_z a (List.mem_range.mpr ha)) i.toNat (List.mem_range.mpr hj)
    rw [Bool.or_eq_true] at q
    rcases q with q | q
    · exact absurd (Nat.eq_of_beq_eq_true q) (by rw [← cxk_nat]; exact hk)
    · rw [Bool.and_eq_true] at q
      have h1 := Nat.blt_eq.mp q.1
      rw [M1_lo ha, show (m0o (xh0 a) && Nat.ble (m0n (xh0 a)) i.toNat) = false from by
        cases m0o (xh0 a) with
        | false => rfl
        | true =>
          cases hb : Nat.ble (m0n (xh0 a)) i.toNat with
          | false => rfl
          | true =>
            have h2 := Nat.ble_eq.mp hb
            omega]
      exact Nat.eq_of_beq_eq_true q.2
theorem lc_z : (List.range 598).all (fun a => !(Nat.beq (kd a) 27) || decide (M1 a 5 ≤ 0)) = true := by decide +kernel
theorem M1_LC : LC M1 0 := fun a ha => by
  have q := List.all_eq_true.mp lc_z a (List.mem_range.mpr (kd_lt (by rw [ha]; decide)))
  rw [ha] at q
  exact of_decide_eq_true q
theorem M1_PC : PC M1 := fun i h0 h1 => by
  have e : M1 (M1 421 2).toNat 2 = 0 := by decide +kernel
  rw [e] at h1
  omega
theorem M1_CV : CV M1 0 0 := ⟨M1_CI, M1_LC, M1_PC, by decide +kernel, by decide +kernel, by decide +kernel⟩
theorem x7_z : ∀ n : Nat, n < 100 → M0 647 (n : Int) = xcv_5 (n : Int) := by decide +kernel
theorem M0_X7 : X7 M0 := fun i i0 i1 => by
  obtain ⟨n, rfl⟩ := Int.eq_ofNat_of_zero_le i0
  exact x7_z n (by omega)
theorem M0_RV : RV M0 0 0 := ⟨M0_RI, M0_RH, M0_RF, M0_RG1, M0_FW, M0_MC, M0_AS, M0_t, M0_X7⟩
theorem jz {c : ix_C} {N : Nat} (h : (List.range N).all (fun n => decide (jp0 c n = 0)) = true) (hN : m0n c ≤ N) (n : Nat) : jp0 c n = 0 := by
  rcases Nat.lt_or_ge n N with q | q
  · exact of_decide_eq_true (List.all_eq_true.mp h n (List.mem_range.mpr q))
  · exact jp0_out (by omega)
theorem M1z {a N : Nat} (ha : a < 598) (ho : m0o (xh0 a) = false) (h : (List.range N).all (fun n => decide (jp0 (xh0 a) n = 0)) = true) (hN : m0n (xh0 a) ≤ N) (i : Int) : M1 a i = 0 := by
  rw [M1_lo ha, ho]
  exact jz h hN i.toNat
theorem M0z {a N : Nat} (ha : a < 688) (h : (List.range N).all (fun n => decide (jp0 (xh0 a) n = 0)) = true) (hN : m0n (xh0 a) ≤ N) (i : Int) : M0 a i = 0 := by
  cases i with
  | ofNat j =>
    show (bif Nat.blt a 688 then jp0 (xh0 a) j else 0) = 0
    rw [Nat.blt_eq.mpr ha]
    exact jz h hN j
  | negSucc j => rfl
theorem rd_1 (i : Int) : M1 1 i = 0 := M1z (N := 1600) (by decide) (by decide +kernel) (by decide +kernel) (by decide +kernel) i
theorem rd_599 (i : Int) : M1 599 i = 0 := (M1_hi (by decide) i).trans (M0z (N := 1600) (by decide) (by decide +kernel) (by decide +kernel) i)
theorem rd_27 (i : Int) : M1 27 i = 0 := M1z (N := 4) (by decide) (by decide +kernel) (by decide +kernel) (by decide +kernel) i
theorem rd_601 (i : Int) : M1 601 i = 0 := (M1_hi (by decide) i).trans (M0z (N := 9600) (by decide) (by decide +kernel) (by decide +kernel) i)
theorem rd_pk : ∀ n : Nat, n < 24 → M1 (xe 2 (n : Int)) 1 = M1 600 (n : Int) := by decide +kernel
theorem rd_pb : ∀ n : Nat, n < 24 → ((xe 2 (n : Int) + 1 < 598 ∧ m0o (xh0 (xe 2 (n : Int) + 1)) = false) ∧ m0n (xh0 (xe 2 (n : Int) + 1)) ≤ 400) ∧ (List.range 400).all (fun j => decide (jp0 (xh0 (xe 2 (n : Int) + 1)) j = 0)) = true := by decide +kernel
theorem rd_o : ∀ n : Nat, n < 4 → M1 643 (n : Int) = 0 ∧ M1 28 (n : Int) = 0 := by decide +kernel
theorem rd_w : ∀ n : Nat, n < 24 → M1 (xe 16 (n : Int)) 0 = 0 ∧ M1 627 (n : Int) = 0 := by decide +kernel
theorem rd_g : ∀ n : Nat, n < 8 → M1 (xe 10 (n : Int)) 0 = 0 ∧ M1 606 (n : Int) = 0 := by decide +kernel
theorem rd_l : ∀ n : Nat, n < 5 → M1 14 (n : Int) = -1 := by decide +kernel
theorem M1_RD : RDA M1 M1 := by
  refine ⟨⟨funext (fun i => (rd_1 i).trans (rd_599 i).symm), by decide +kernel⟩, fun p p0 p1 => ?_, ⟨by decide +kernel, by decide +kernel, by decide +kernel, by decide +kernel⟩, fun i i0 i1 => ?_, ⟨fun y => by rw [rd_27]; decide, fun k k0 k1 => ?_⟩, ⟨by decide +kernel, fun f f0 f1 => ?_⟩, fun g h g0 g1 h0 h1 u => ?_, fun g g0 g1 => ?_⟩
  · obtain ⟨n, rfl⟩ := Int.eq_ofNat_of_zero_le p0
    refine ⟨rd_pk n (by omega), fun i _ _ => ?_⟩
    have q := rd_pb n (by omega)
    rw [rd_601]
    exact M1z q.1.1.1 q.1.1.2 q.2 q.1.2 i
  · obtain ⟨n, rfl⟩ := Int.eq_ofNat_of_zero_le i0
    rw [rd_l n (by omega), if_pos (by decide +kernel)]
  · obtain ⟨n, rfl⟩ := Int.eq_ofNat_of_zero_le k0
    have q := rd_o n (by omega)
    exact ⟨fun _ => q.2, fun u => absurd q.1 u⟩
  · obtain ⟨n, rfl⟩ := Int.eq_ofNat_of_zero_le f0
    rw [show (M1 15 0).toNat = 16 by decide +kernel]
    have q := rd_w n (by omega)
    exact ⟨q.1.trans q.2.symm, fun u => absurd q.2 u⟩
  · obtain ⟨n, rfl⟩ := Int.eq_ofNat_of_zero_le g0
    exact absurd (rd_g n (by omega)).2 u
  · obtain ⟨n, rfl⟩ := Int.eq_ofNat_of_zero_le g0
    have q := rd_g n (by omega)
    exact ⟨q.1.trans q.2.symm, fun u => absurd q.2 u⟩
theorem M1_RV : RV M1 0 0 := M0_RV.tr (fun a i ha => M1_hi ha i)
end
section
/-! ===== the law's loop ===== -/
theorem lloop {A : Nat → Option (Nat × (Nat → Int32))} [HA A] {N : Nat} {xs : Nat → Int32} (hA0 : A 0 = some (N, xs)) (hN : N ≤ 3072) : ∀ (n : Nat) (M : jm) (c S i : Int), i = 6 * c → 0 ≤ c → c ≤ 512 → CV M (1000000 * c) S → RV M (2689623 * c) S → RDA M M → (0 ≤ S ∧ S ≤ 1000 * c) → 512 - c ≤ n → jr A 364 xm_law 18 [(3, .int (Int32.ofInt (i))), (2, .ref (598)), (1, .ref (0)), (0, .ref (1000000))] [] M (fun rv _ => rv = some (.int (Int32.ofInt 1))) := by
  intro n
  induction n using Nat.strongRecOn with
  | ind n ih =>
    intro M c S i hic hc0 hc1 cv rv rd hS hm
    have nxt : c ≤ 511 → ∀ (M' : jm) (S' : Int), S ≤ S' → S' ≤ S + 1000 → CV M' (1000000 * c + 1000000) S' → RV M' (2689623 * c + 2689623) S' → RDA M' M' → jr A 364 xm_law 1328 [(3, .int (Int32.ofInt (i))), (2, .ref (598)), (1, .ref (0)), (0, .ref (1000000))] [] M' (fun rv _ => rv = some (.int (Int32.ofInt 1))) := by
      intro hc M' S' h1 h2 cv' rv' rd'
      refine jr.iinc rfl rfl (nlt rfl) rfl ?_
      refine jr.goto rfl rfl ?_
      exact ih (n - 1) (by omega) M' (c + 1) S' (i + 6) (by omega) (by omega) (by omega) (by rw [show 1000000 * (c + 1) = 1000000 * c + 1000000 by omega]; exact cv') (by rw [show 2689623 * (c + 1) = 2689623 * c + 2689623 by omega]; exact rv') rd' (by omega) (by omega)
    refine jr.iload_n rfl rfl ?_
    refine jr.aload_n rfl rfl ?_
    refine jr.alens (x := (N : Int)) rfl (by decide) hA0 (Int32.ofInt_eq_ofNat).symm ?_
    refine jr.bipush rfl (by decide) ?_
    refine jr.isub rfl ?_
    refine jr.icmp_gt rfl rfl (by first | (refine rgb (by assumption) ?_; exact rfl) | omega) (by first | (refine rgb (by assumption) ?_; exact rfl) | omega) (fun h24 => ?_) (fun h24 => ?_)
    · refine jr.iconst rfl ?_
      exact jr.ireturn rfl rfl rfl rfl
    · refine jr.aload_n rfl rfl ?_
      refine jr.iload_n rfl rfl ?_
      obtain ⟨v1, e1⟩ : ∃ z_, (xs (i).toNat).toInt = z_ := ⟨_, rfl⟩
      have b1 : -2147483648 ≤ v1 ∧ v1 ≤ 2147483647 := by rw [← e1]; exact jb_any _
      refine jr.ials (i := i) v1 rfl (by decide) hA0 (by omega) (by omega) (by omega) (by rw [← e1]; exact (Int32.ofInt_toInt _).symm) ?_
      refine jr.bipush rfl (by decide) ?_
      refine jr.iand rfl ?_
      have b2 : 0 ≤ j_and v1 63 ∧ j_and v1 63 ≤ 63 := j_and_le (by decide)
      generalize j_and v1 63 = v2 at b2 ⊢
      rcases (show v2 = 0 ∨ v2 = 1 ∨ v2 = 2 ∨ v2 = 3 ∨ v2 = 4 ∨ v2 = 5 ∨ v2 = 6 ∨ v2 = 7 ∨ v2 = 8 ∨ v2 = 9 ∨ v2 = 10 ∨ v2 = 11 ∨ v2 = 12 ∨ v2 = 13 ∨ v2 = 14 ∨ v2 = 15 ∨ v2 = 16 ∨ v2 = 17 ∨ v2 = 18 ∨ v2 = 19 ∨ v2 = 20 ∨ v2 = 21 ∨ v2 = 22 ∨ v2 = 23 ∨ v2 = 24 ∨ v2 = 25 ∨ v2 = 26 ∨ v2 = 27 ∨ v2 = 28 ∨ v2 = 29 ∨ v2 = 30 ∨ v2 = 31 ∨ v2 = 32 ∨ v2 = 33 ∨ v2 = 34 ∨ v2 = 35 ∨ v2 = 36 ∨ v2 = 37 ∨ v2 = 38 ∨ v2 = 39 ∨ 39 < v2 by omega) with h33 | h33 | h33 | h33 | h33 | h33 | h33 | h33 | h33 | h33 | h33 | h33 | h33 | h33 | h33 | h33 | h33 | h33 | h33 | h33 | h33 | h33 | h33 | h33 | h33 | h33 | h33 | h33 | h33 | h33 | h33 | h33 | h33 | h33 | h33 | h33 | h33 | h33 | h33 | h33 | h33
      · refine jr.tsw_k 0 rfl h33 rfl ?_
        exact lop_0 hA0 (by omega) cv rv rd (by omega) (by omega) (by omega) (by omega) (nxt (by omega))
      · refine jr.tsw_k 1 rfl h33 rfl ?_
        exact lop_1 hA0 (by omega) cv rv rd (by omega) (by omega) (by omega) (by omega) (nxt (by omega))
      · refine jr.tsw_k 2 rfl h33 rfl ?_
        exact lop_2 hA0 (by omega) cv rv rd (by omega) (by omega) (by omega) (by omega) (nxt (by omega))
      · refine jr.tsw_k 3 rfl h33 rfl ?_
        exact lop_3 hA0 (by omega) cv rv rd (by omega) (by omega) (by omega) (by omega) (nxt (by omega))
      · refine jr.tsw_k 4 rfl h33 rfl ?_
        exact lop_4 hA0 (by omega) cv rv rd (by omega) (by omega) (by omega) (by omega) (nxt (by omega))
      · refine jr.tsw_k 5 rfl h33 rfl ?_
        exact lop_5 hA0 (by omega) cv rv rd (by omega) (by omega) (by omega) (by omega) (nxt (by omega))
      · refine jr.tsw_k 6 rfl h33 rfl ?_
        exact lop_6 hA0 (by omega) cv rv rd (by omega) (by omega) (by omega) (by omega) (nxt (by omega))
      · refine jr.tsw_k 7 rfl h33 rfl ?_
        exact lop_7 hA0 (by omega) cv rv rd (by omega) (by omega) (by omega) (by omega) (nxt (by omega))
      · refine jr.tsw_k 8 rfl h33 rfl ?_
        exact lop_8 hA0 (by omega) cv rv rd (by omega) (by omega) (by omega) (by omega) (nxt (by omega))
      · refine jr.tsw_k 9 rfl h33 rfl ?_
        exact lop_9 hA0 (by omega) cv rv rd (by omega) (by omega) (by omega) (by omega) (nxt (by omega))
      · refine jr.tsw_k 10 rfl h33 rfl ?_
        exact lop_10 hA0 (by omega) cv rv rd (by omega) (by omega) (by omega) (by omega) (nxt (by omega))
      · refine jr.tsw_k 11 rfl h33 rfl ?_
        exact lop_11 hA0 (by omega) cv rv rd (by omega) (by omega) (by omega) (by omega) (nxt (by omega))
      · refine jr.tsw_k 12 rfl h33 rfl ?_
        exact lop_12 hA0 (by omega) cv rv rd (by omega) (by omega) (by omega) (by omega) (nxt (by omega))
      · refine jr.tsw_k 13 rfl h33 rfl ?_
        exact lop_13 hA0 (by omega) cv rv rd (by omega) (by omega) (by omega) (by omega) (nxt (by omega))
      · refine jr.tsw_k 14 rfl h33 rfl ?_
        exact lop_14 hA0 (by omega) cv rv rd (by omega) (by omega) (by omega) (by omega) (nxt (by omega))
      · refine jr.tsw_k 15 rfl h33 rfl ?_
        exact lop_15 hA0 (by omega) cv rv rd (by omega) (by omega) (by omega) (by omega) (nxt (by omega))
      · refine jr.tsw_k 16 rfl h33 rfl ?_
        exact lop_16 hA0 (by omega) cv rv rd (by omega) (by omega) (by omega) (by omega) (nxt (by omega))
      · refine jr.tsw_k 17 rfl h33 rfl ?_
        exact lop_17 hA0 (by omega) cv rv rd (by omega) (by omega) (by omega) (by omega) (nxt (by omega))
      · refine jr.tsw_k 18 rfl h33 rfl ?_
        exact lop_18 hA0 (by omega) cv rv rd (by omega) (by omega) (by omega) (by omega) (nxt (by omega))
      · refine jr.tsw_k 19 rfl h33 rfl ?_
        exact lop_19 hA0 (by omega) cv rv rd (by omega) (by omega) (by omega) (by omega) (nxt (by omega))
      · refine jr.tsw_k 20 rfl h33 rfl ?_
        exact lop_20 hA0 (by omega) cv rv rd (by omega) (by omega) (by omega) (by omega) (nxt (by omega))
      · refine jr.tsw_k 21 rfl h33 rfl ?_
        exact lop_21 hA0 (by omega) cv rv rd (by omega) (by omega) (by omega) (by omega) (nxt (by omega))
      · refine jr.tsw_k 22 rfl h33 rfl ?_
        exact lop_22 hA0 (by omega) cv rv rd (by omega) (by omega) (by omega) (by omega) (nxt (by omega))
      · refine jr.tsw_k 23 rfl h33 rfl ?_
        exact lop_23 hA0 (by omega) cv rv rd (by omega) (by omega) (by omega) (by omega) (nxt (by omega))
      · refine jr.tsw_k 24 rfl h33 rfl ?_
        exact lop_24 hA0 (by omega) cv rv rd (by omega) (by omega) (by omega) (by omega) (nxt (by omega))
      · refine jr.tsw_k 25 rfl h33 rfl ?_
        exact lop_25 hA0 (by omega) cv rv rd (by omega) (by omega) (by omega) (by omega) (nxt (by omega))
      · refine jr.tsw_k 26 rfl h33 rfl ?_
        exact lop_26 hA0 (by omega) cv rv rd (by omega) (by omega) (by omega) (by omega) (nxt (by omega))
      · refine jr.tsw_k 27 rfl h33 rfl ?_
        exact lop_27 hA0 (by omega) cv rv rd (by omega) (by omega) (by omega) (by omega) (nxt (by omega))
      · refine jr.tsw_k 28 rfl h33 rfl ?_
        exact lop_28 hA0 (by omega) cv rv rd (by omega) (by omega) (by omega) (by omega) (nxt (by omega))
      · refine jr.tsw_k 29 rfl h33 rfl ?_
        exact lop_29 hA0 (by omega) cv rv rd (by omega) (by omega) (by omega) (by omega) (nxt (by omega))
      · refine jr.tsw_k 30 rfl h33 rfl ?_
        exact lop_30 hA0 (by omega) cv rv rd (by omega) (by omega) (by omega) (by omega) (nxt (by omega))
      · refine jr.tsw_k 31 rfl h33 rfl ?_
        exact lop_31 hA0 (by omega) cv rv rd (by omega) (by omega) (by omega) (by omega) (nxt (by omega))
      · refine jr.tsw_k 32 rfl h33 rfl ?_
        exact lop_32 hA0 (by omega) cv rv rd (by omega) (by omega) (by omega) (by omega) (nxt (by omega))
      · refine jr.tsw_k 33 rfl h33 rfl ?_
        exact lop_33 hA0 (by omega) cv rv rd (by omega) (by omega) (by omega) (by omega) (nxt (by omega))
      · refine jr.tsw_k 34 rfl h33 rfl ?_
        exact lop_34 hA0 (by omega) cv rv rd (by omega) (by omega) (by omega) (by omega) (nxt (by omega))
      · refine jr.tsw_k 35 rfl h33 rfl ?_
        exact lop_35 hA0 (by omega) cv rv rd (by omega) (by omega) (by omega) (by omega) (nxt (by omega))
      · refine jr.tsw_k 36 rfl h33 rfl ?_
        exact lop_36 hA0 (by omega) cv rv rd (by omega) (by omega) (by omega) (by omega) (nxt (by omega))
      · refine jr.tsw_k 37 rfl h33 rfl ?_
        exact lop_37 hA0 (by omega) cv rv rd (by omega) (by omega) (by omega) (by omega) (nxt (by omega))
      · refine jr.tsw_k 38 rfl h33 rfl ?_
        exact lop_38 hA0 (by omega) cv rv rd (by omega) (by omega) (by omega) (by omega) (nxt (by omega))
      · refine jr.tsw_k 39 rfl h33 rfl ?_
        exact lop_39 hA0 (by omega) cv rv rd (by omega) (by omega) (by omega) (by omega) (nxt (by omega))
      · refine jr.tsw_d rfl (by omega) (Or.inr (by omega)) rfl ?_
        exact (nxt (by omega)) _ _ (Int.le_refl _) (by omega) (cv.le (by omega)) (rv.le (by omega)) rd
theorem lall {A : Nat → Option (Nat × (Nat → Int32))} [HA A] {N : Nat} {xs : Nat → Int32} (hA0 : A 0 = some (N, xs)) (hN : N ≤ 3072) : jr A 364 xm_law 16 xls0 [] M1 (fun rv _ => rv = some (.int (Int32.ofInt 1))) := by
  refine jr.iconst rfl ?_
  refine jr.istore_n rfl (nlt rfl) rfl ?_
  exact lloop hA0 hN 512 M1 0 0 0 rfl (by decide) (by decide) M1_CV M1_RV M1_RD (by decide) (by decide)
end
