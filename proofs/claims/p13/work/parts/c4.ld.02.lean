section
theorem lop_33 {A : Nat → Option (Nat × (Nat → Int32))} [HA A] {Q : Option Value → jm → Prop} {N : Nat} {xs : Nat → Int32} (hA0 : A 0 = some (N, xs)) (hN : N ≤ 4000) {M : jm} {L L2 S i : Int} (cv : CV M L S) (rv : RV M L2 S) (rd : RDA M M) (hS : 0 ≤ S ∧ S ≤ 900000) (hL : 0 ≤ L ∧ L ≤ 1900000000) (hL2 : 0 ≤ L2 ∧ L2 ≤ 1900000000) (hi : 0 ≤ i ∧ i + 6 ≤ N) (k : ∀ (M' : jm) (S' : Int), S ≤ S' → S' ≤ S + 1000 → CV M' (L + 1000000) S' → RV M' (L2 + 2689623) S' → RDA M' M' → jr A 364 xm_law 1328 [(3, .int (Int32.ofInt (i))), (2, .ref (598)), (1, .ref (0)), (0, .ref (1000000))] [] M' Q) : jr A 364 xm_law 1177 [(3, .int (Int32.ofInt (i))), (2, .ref (598)), (1, .ref (0)), (0, .ref (1000000))] [] M Q := by
  have hC_M := cv.1
  have hne := cv.2.2.2.1
  have hz4 := cv.2.2.2.2.1
  have hS8 := cv.2.2.2.2.2
  refine jr.aload_n rfl rfl ?_
  refine jr.aload_n rfl rfl ?_
  refine jr.iload_n rfl rfl ?_
  refine jr.iconst rfl ?_
  refine jr.iadd rfl ?_
  obtain ⟨v1, e1⟩ : ∃ z_, (xs (i + 1).toNat).toInt = z_ := ⟨_, rfl⟩
  have b1 : -2147483648 ≤ v1 ∧ v1 ≤ 2147483647 := by rw [← e1]; exact jb_any _
  refine jr.ials (i := (i + 1)) v1 rfl (by decide) hA0 (by omega) (by omega) (by omega) (by rw [← e1]; exact (Int32.ofInt_toInt _).symm) ?_
  refine jr_v rfl rfl (Or.inl rfl) rfl rfl (by decide) rfl ⟨rfl, Nat.le_of_ble_eq_true rfl, Nat.le_of_ble_eq_true rfl⟩ rfl (jc.deep (c_PacketWall_has cv.1 (by omega) (fun r2 z2  => ?_)) (by decide))
  refine jr.pop rfl rfl ?_
  refine jr.aload_n rfl rfl ?_
  refine jr.aload_n rfl rfl ?_
  refine jr.iload_n rfl rfl ?_
  refine jr.iconst rfl ?_
  refine jr.iadd rfl ?_
  refine jr.ials (i := (i + 1)) v1 rfl (by decide) hA0 (by omega) (by omega) (by omega) (by rw [← e1]; exact (Int32.ofInt_toInt _).symm) ?_
  refine jr_v rfl rfl (Or.inl rfl) rfl rfl (by decide) rfl ⟨rfl, Nat.le_of_ble_eq_true rfl, Nat.le_of_ble_eq_true rfl⟩ rfl (jc.deep (r_has_x rv.1 rv.2.1 rv.2.2.1 (by omega) (fun r3 M3 hI hH hF z3 hf => ?_)) (by decide))
  have cv2 : CV M3 L S := cv.z (fun a i ha => hf a i (by omega))
  have rv2 : RV M3 L2 S := ⟨hI, hH, hF, (RG1.fr rv.2.2.2.1 (fun a i ha => hf a i (rG_ne ha rfl))), by rw [show M3 650 = M 650 from funext (fun i => hf 650 i (by decide))]; exact rv.2.2.2.2.1, (MC.fr rv.2.2.2.2.2.1 (fun i => hf 652 i (by decide)) (fun i => hf 653 i (by decide)) (fun i => hf 654 i (by decide)) (fun i => hf 655 i (by decide)) (hf 598 82 (by decide))), (AS.fr rv.2.2.2.2.2.2.1 (fun i => hf 685 i (by decide)) (hf 598 112 (by decide))), ((hf 598 2 (by decide)).trans rv.2.2.2.2.2.2.2.1), X7.fr rv.2.2.2.2.2.2.2.2 (fun i => hf 647 i (by decide))⟩
  have rd2 : RDA M3 M3 := (oq_has rd rv.2.2.2.1 rv.1  hf ).c (fun a i ha => hf a i (by omega))
  refine jr.pop rfl rfl ?_
  refine jr.goto rfl rfl ?_
  exact k _ _ (Int.le_refl _) (by omega) (cv2.le (by omega)) (rv2.le (by omega)) rd2
end
