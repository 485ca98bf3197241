theorem r_copy_L292 {A : Nat → Option (Nat × (Nat → Int32))} {Q : Option Value → jm → Prop} {M0 : jm} (q : ∀ (M' : jm), RI M' → RH M' → RF M' → (∀ (a : Nat) (i : Int), a ≠ 598 → a ≠ 676 → a ≠ 677 → a ≠ 678 → M' a i = M0 a i) → (∀ (i : Int), i ≠ 135 → M' 598 i = M0 598 i) → Q none M') : ∀ (nM : Nat) (M : jm) (k : Int) (m : Int) (t : Int) (f : Int) (h : Int), RI M → RH M → RF M → (∀ (a : Nat) (i : Int), a ≠ 598 → a ≠ 676 → a ≠ 677 → a ≠ 678 → M a i = M0 a i) → (∀ (i : Int), i ≠ 135 → M 598 i = M0 598 i) → 0 ≤ k ∧ k ≤ 40 → 0 ≤ m ∧ m ≤ 40 → 0 ≤ t ∧ t ≤ 320 → 0 ≤ f ∧ f ≤ 320 → 0 ≤ h ∧ h ≤ 1 → f + m ≤ 320 → t + m ≤ 320 → 40 - k ≤ nM → jr A 1 xm_399 292 [(17, .int (Int32.ofInt (k))), (16, .int (Int32.ofInt (m))), (15, .int (Int32.ofInt (t))), (14, .int (Int32.ofInt (f))), (13, .int (Int32.ofInt (h))), (0, .ref (598))] [] M Q := by
  intro nM
  induction nM using Nat.strongRecOn with
  | ind nM ih =>
    intro M k m t f h hI_M hH_M hS_M hF_M hG_M h_k h_m h_t h_f h_h hy0 hy1 hm
    refine jr.iload rfl rfl ?_
    refine jr.iload rfl rfl ?_
    refine jr.icmp_ge rfl rfl (by omega) (by omega) (fun h296 => ?_) (fun h296 => ?_)
    · exact jr.vreturn rfl rfl (q _ hI_M hH_M hS_M  (fun a i f598 f676 f677 f678 => (hF_M a i f598 f676 f677 f678)) (fun i g135 => (hG_M i g135)))
    · refine jr.iload rfl rfl ?_
      refine jr.iload rfl rfl ?_
      refine jr.icmp_gt rfl rfl (by omega) (by omega) (fun h303 => ?_) (fun h303 => ?_)
      · refine jr.iload rfl rfl ?_
        refine jr.iconst rfl ?_
        refine jr.isub rfl ?_
        refine jr.iload rfl rfl ?_
        refine jr.isub rfl ?_
        refine jr.istore rfl (by decide) rfl ?_
        refine jr.iload rfl rfl ?_
        refine jr.if_eq rfl rfl (by omega) (fun h322 => ?_) (fun h322 => ?_)
        · refine jr.aload_n rfl rfl ?_
          refine jr.getf (i := 119) (v := .ref 676) rfl rfl (by decide) rfl (by decide) rfl rfl rfl rfl ?_
          refine jr.iload rfl rfl ?_
          refine jr.iload rfl rfl ?_
          refine jr.iadd rfl ?_
          refine jr.aload_n rfl rfl ?_
          refine jr.getf (i := 119) (v := .ref 676) rfl rfl (by decide) rfl (by decide) rfl rfl rfl rfl ?_
          refine jr.iload rfl rfl ?_
          refine jr.iload rfl rfl ?_
          refine jr.iadd rfl ?_
          obtain ⟨v1, e1⟩ : ∃ z, M 676 (f + ((m - 1) - k)) = z := ⟨_, rfl⟩
          have b1 : (-9223372036854775808) ≤ v1 ∧ v1 ≤ 9223372036854775807 := by rw [← e1]; exact (by have q := hI_M 676 (f + ((m - 1) - k)) (by decide); rw [xri_row rfl rfl] at q; exact q)
          refine jr.lald (i := (f + ((m - 1) - k))) (x := v1) rfl (by decide) rfl (by decide) (by omega) (by omega) e1 ?_
          refine jr.last (i := (t + ((m - 1) - k))) (x := v1) rfl (by decide) rfl (by decide) (by omega) (by omega) ?_
          refine jr.iinc rfl rfl (by decide) rfl ?_
          refine jr.goto rfl rfl ?_
          refine jr.pick [0, 2, 3, 4, 5, 6] rfl rfl ?_
          exact ih (nM - 1) (by omega) (ju M 676 (t + ((m - 1) - k)) v1) (k + 1) m t f h (RI.u hI_M (a := 676) (i := (t + ((m - 1) - k))) (by rw [xri_row rfl rfl]; show (-9223372036854775808 : Int) ≤ _ ∧ _ ≤ (9223372036854775807 : Int); omega)) (RH.o hH_M (by decide) (by decide) (by decide)) (RF.o hS_M (by decide) (by decide))  (fun a i f598 f676 f677 f678 => ((ju_c _ _ f676).trans (hF_M a i f598 f676 f677 f678))) (fun i g135 => ((ju_c _ _ (by decide)).trans (hG_M i g135))) (by omega) (by omega) (by omega) (by omega) (by omega) (by omega) (by omega) (by omega)
        · have sx322 : (1 : Int) ≤ h := by omega
          refine jr.aload_n rfl rfl ?_
          refine jr.iload rfl rfl ?_
          refine jr.iload rfl rfl ?_
          refine jr.iadd rfl ?_
          refine jr.iload rfl rfl ?_
          refine jr.iload rfl rfl ?_
          refine jr.iadd rfl ?_
          refine jr_v rfl rfl (Or.inl rfl) rfl rfl (by decide) rfl ⟨rfl, Nat.le_of_ble_eq_true rfl, Nat.le_of_ble_eq_true rfl⟩ rfl (jc.deep (r_layHead hI_M hH_M hS_M  (by omega) (by omega)  (fun M2 hI_M2 hH_M2 hS_M2  w2_0 => ?_)) (by decide))
          refine jr.goto rfl rfl ?_
          refine jr.iinc rfl rfl (by decide) rfl ?_
          refine jr.goto rfl rfl ?_
          refine jr.pick [0, 2, 3, 4, 5, 6] rfl rfl ?_
          exact ih (nM - 1) (by omega) M2 (k + 1) m t f h hI_M2 hH_M2 hS_M2  (fun a i f598 f676 f677 f678 => ((w2_0 a i f677 f678).trans (hF_M a i f598 f676 f677 f678))) (fun i g135 => ((w2_0 598 i (by decide) (by decide)).trans (hG_M i g135))) (by omega) (by omega) (by omega) (by omega) (by omega) (by omega) (by omega) (by omega)
      · refine jr.iload rfl rfl ?_
        refine jr.goto rfl rfl ?_
        refine jr.istore rfl (by decide) rfl ?_
        refine jr.iload rfl rfl ?_
        refine jr.if_eq rfl rfl (by omega) (fun h322 => ?_) (fun h322 => ?_)
        · refine jr.aload_n rfl rfl ?_
          refine jr.getf (i := 119) (v := .ref 676) rfl rfl (by decide) rfl (by decide) rfl rfl rfl rfl ?_
          refine jr.iload rfl rfl ?_
          refine jr.iload rfl rfl ?_
          refine jr.iadd rfl ?_
          refine jr.aload_n rfl rfl ?_
          refine jr.getf (i := 119) (v := .ref 676) rfl rfl (by decide) rfl (by decide) rfl rfl rfl rfl ?_
          refine jr.iload rfl rfl ?_
          refine jr.iload rfl rfl ?_
          refine jr.iadd rfl ?_
          obtain ⟨v3, e3⟩ : ∃ z, M 676 (f + k) = z := ⟨_, rfl⟩
          have b3 : (-9223372036854775808) ≤ v3 ∧ v3 ≤ 9223372036854775807 := by rw [← e3]; exact (by have q := hI_M 676 (f + k) (by decide); rw [xri_row rfl rfl] at q; exact q)
          refine jr.lald (i := (f + k)) (x := v3) rfl (by decide) rfl (by decide) (by omega) (by omega) e3 ?_
          refine jr.last (i := (t + k)) (x := v3) rfl (by decide) rfl (by decide) (by omega) (by omega) ?_
          refine jr.iinc rfl rfl (by decide) rfl ?_
          refine jr.goto rfl rfl ?_
          refine jr.pick [0, 2, 3, 4, 5, 6] rfl rfl ?_
          exact ih (nM - 1) (by omega) (ju M 676 (t + k) v3) (k + 1) m t f h (RI.u hI_M (a := 676) (i := (t + k)) (by rw [xri_row rfl rfl]; show (-9223372036854775808 : Int) ≤ _ ∧ _ ≤ (9223372036854775807 : Int); omega)) (RH.o hH_M (by decide) (by decide) (by decide)) (RF.o hS_M (by decide) (by decide))  (fun a i f598 f676 f677 f678 => ((ju_c _ _ f676).trans (hF_M a i f598 f676 f677 f678))) (fun i g135 => ((ju_c _ _ (by decide)).trans (hG_M i g135))) (by omega) (by omega) (by omega) (by omega) (by omega) (by omega) (by omega) (by omega)
        · have sx322 : (1 : Int) ≤ h := by omega
          refine jr.aload_n rfl rfl ?_
          refine jr.iload rfl rfl ?_
          refine jr.iload rfl rfl ?_
          refine jr.iadd rfl ?_
          refine jr.iload rfl rfl ?_
          refine jr.iload rfl rfl ?_
          refine jr.iadd rfl ?_
          refine jr_v rfl rfl (Or.inl rfl) rfl rfl (by decide) rfl ⟨rfl, Nat.le_of_ble_eq_true rfl, Nat.le_of_ble_eq_true rfl⟩ rfl (jc.deep (r_layHead hI_M hH_M hS_M  (by omega) (by omega)  (fun M4 hI_M4 hH_M4 hS_M4  w4_0 => ?_)) (by decide))
          refine jr.goto rfl rfl ?_
          refine jr.iinc rfl rfl (by decide) rfl ?_
          refine jr.goto rfl rfl ?_
          refine jr.pick [0, 2, 3, 4, 5, 6] rfl rfl ?_
          exact ih (nM - 1) (by omega) M4 (k + 1) m t f h hI_M4 hH_M4 hS_M4  (fun a i f598 f676 f677 f678 => ((w4_0 a i f677 f678).trans (hF_M a i f598 f676 f677 f678))) (fun i g135 => ((w4_0 598 i (by decide) (by decide)).trans (hG_M i g135))) (by omega) (by omega) (by omega) (by omega) (by omega) (by omega) (by omega) (by omega)
