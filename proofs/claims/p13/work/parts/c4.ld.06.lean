section
theorem lop_37 {A : Nat → Option (Nat × (Nat → Int32))} [HA A] {Q : Option Value → jm → Prop} {N : Nat} {xs : Nat → Int32} (hA0 : A 0 = some (N, xs)) (hN : N ≤ 4000) {M : jm} {L L2 S i : Int} (cv : CV M L S) (rv : RV M L2 S) (rd : RDA M M) (hS : 0 ≤ S ∧ S ≤ 900000) (hL : 0 ≤ L ∧ L ≤ 1900000000) (hL2 : 0 ≤ L2 ∧ L2 ≤ 1900000000) (hi : 0 ≤ i ∧ i + 6 ≤ N) (k : ∀ (M' : jm) (S' : Int), S ≤ S' → S' ≤ S + 1000 → CV M' (L + 1000000) S' → RV M' (L2 + 2689623) S' → RDA M' M' → jr A 364 xm_law 1328 [(3, .int (Int32.ofInt (i))), (2, .ref (598)), (1, .ref (0)), (0, .ref (1000000))] [] M' Q) : jr A 364 xm_law 1269 [(3, .int (Int32.ofInt (i))), (2, .ref (598)), (1, .ref (0)), (0, .ref (1000000))] [] M Q := by
  have hC_M := cv.1
  have hne := cv.2.2.2.1
  have hz4 := cv.2.2.2.2.1
  have hS8 := cv.2.2.2.2.2
  refine jr.aload_n rfl rfl ?_
  refine jr_v rfl rfl (Or.inl rfl) rfl rfl (by decide) rfl ⟨rfl, Nat.le_of_ble_eq_true rfl, Nat.le_of_ble_eq_true rfl⟩ rfl (jc.deep (c_PacketWall_restore_x cv.1 (FR.rfl _ M) rfl rfl rfl rfl rfl (by omega) rd.2.2.2.2.2.1.1.2 (fun r1 M1 hC_M1 hf_M1 z1 w1_0 w1_1 => ?_)) (by decide))
  have cv1 : CV M1 L S := ⟨hC_M1, (cv.2.1.fr hf_M1 rfl), (cv.2.2.1.fr cv.1 hf_M1 rfl), (by rw [hf_M1.g (show kd 413 = 44 from rfl) rfl, hf_M1.g (show kd 421 = 22 from rfl) rfl]; exact cv.2.2.2.1), ((hf_M1.g (show kd 421 = 22 from rfl) rfl).trans cv.2.2.2.2.1), ((hf_M1.g (show kd 0 = 35 from rfl) rfl).trans cv.2.2.2.2.2)⟩
  have rv1 : RV M1 L2 S := RV.tr rv (fun a i ha => hf_M1.g (kd_hi ha) rfl)
  have rd1 : RDA M M1 := rd.rr rv.2.2.2.1 rv.1 (fun a i ha => hf_M1.g (kd_hi ha) rfl)
  refine jr.pop rfl rfl ?_
  refine jr.aload_n rfl rfl ?_
  refine jr_v rfl rfl (Or.inl rfl) rfl rfl (by decide) rfl ⟨rfl, Nat.le_of_ble_eq_true rfl, Nat.le_of_ble_eq_true rfl⟩ rfl (jc.deep (r_restore_x rv1.1 rv1.2.1 rv1.2.2.1 (fun r2 M2 hI hH hF z2 w2 hf hk => ?_)) (by decide))
  have cv2 : CV M2 L S := cv1.z (fun a i ha => hf a i (by omega) (by omega) (by omega) (by omega) (by omega) (by omega) (by omega) (by omega) (by omega) (by omega) (by omega) (by omega) (by omega) (by omega) (by omega))
  have rv2 : RV M2 L2 S := ⟨hI, hH, hF, (RG1.fr rv1.2.2.2.1 (fun a i ha => hf a i (rG_ne ha rfl) (rG_ne ha rfl) (rG_ne ha rfl) (rG_ne ha rfl) (rG_ne ha rfl) (rG_ne ha rfl) (rG_ne ha rfl) (rG_ne ha rfl) (rG_ne ha rfl) (rG_ne ha rfl) (rG_ne ha rfl) (rG_ne ha rfl) (rG_ne ha rfl) (rG_ne ha rfl) (rG_ne ha rfl))), by rw [show M2 650 = M1 650 from funext (fun i => hf 650 i (by decide) (by decide) (by decide) (by decide) (by decide) (by decide) (by decide) (by decide) (by decide) (by decide) (by decide) (by decide) (by decide) (by decide) (by decide))]; exact rv1.2.2.2.2.1, (MC.fr rv1.2.2.2.2.2.1 (fun i => hf 652 i (by decide) (by decide) (by decide) (by decide) (by decide) (by decide) (by decide) (by decide) (by decide) (by decide) (by decide) (by decide) (by decide) (by decide) (by decide)) (fun i => hf 653 i (by decide) (by decide) (by decide) (by decide) (by decide) (by decide) (by decide) (by decide) (by decide) (by decide) (by decide) (by decide) (by decide) (by decide) (by decide)) (fun i => hf 654 i (by decide) (by decide) (by decide) (by decide) (by decide) (by decide) (by decide) (by decide) (by decide) (by decide) (by decide) (by decide) (by decide) (by decide) (by decide)) (fun i => hf 655 i (by decide) (by decide) (by decide) (by decide) (by decide) (by decide) (by decide) (by decide) (by decide) (by decide) (by decide) (by decide) (by decide) (by decide) (by decide)) (hk 82 (by decide))), (AS.fr rv1.2.2.2.2.2.2.1 (fun i => hf 685 i (by decide) (by decide) (by decide) (by decide) (by decide) (by decide) (by decide) (by decide) (by decide) (by decide) (by decide) (by decide) (by decide) (by decide) (by decide)) (hk 112 (by decide))), ((hk 2 (by decide)).trans rv1.2.2.2.2.2.2.2.1), X7.fr rv1.2.2.2.2.2.2.2.2 (fun i => hf 647 i (by decide) (by decide) (by decide) (by decide) (by decide) (by decide) (by decide) (by decide) (by decide) (by decide) (by decide) (by decide) (by decide) (by decide) (by decide))⟩
  have ho := op_restore rd1 rv1.2.2.2.1 rv1.1 (hS8.trans rv1.2.2.2.2.2.2.2.1.symm) hf_M1 w1_1 w1_0 w2 hf hk
  have rd2 : RDA M2 M2 := ho.1.c (fun a i ha => hf a i (by omega) (by omega) (by omega) (by omega) (by omega) (by omega) (by omega) (by omega) (by omega) (by omega) (by omega) (by omega) (by omega) (by omega) (by omega))
  have heq : r1 = r2 := ho.2
  refine jr.pop rfl rfl ?_
  refine jr.goto rfl rfl ?_
  exact k _ _ (Int.le_refl _) (by omega) (cv2.le (by omega)) (rv2.le (by omega)) rd2
end
