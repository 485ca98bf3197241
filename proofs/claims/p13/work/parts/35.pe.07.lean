section
theorem r_resolve_L21 {A : Nat → Option (Nat × (Nat → Int32))} {Q : Option Value → jm → Prop} {M0 : jm} (q : ∀ (M' : jm), RI M' → RH M' → RF M' → XS M' 0 0 0 1 (-1) → (∀ (a : Nat) (i : Int), a ≠ 598 → a ≠ 660 → M' a i = M0 a i) → (∀ (i : Int), i ≠ 80 → i ≠ 81 → M' 598 i = M0 598 i) → Q none M') (nO : Nat) (ko : ∀ (M : jm) (k : Int), RI M → RH M → RF M → (∀ (a : Nat) (i : Int), a ≠ 598 → a ≠ 660 → M a i = M0 a i) → (∀ (i : Int), i ≠ 80 → i ≠ 81 → M 598 i = M0 598 i) → 0 ≤ k ∧ k ≤ 300 → XS M 0 0 0 1 (-1) → AK M → 300 - k ≤ nO → jr A 1 xm_370 2 [(1, .int (Int32.ofInt (k))), (0, .ref (598))] [] M Q) : ∀ (nM : Nat) (M : jm) (i : Int) (c : Int) (k : Int), RI M → RH M → RF M → (∀ (a : Nat) (i : Int), a ≠ 598 → a ≠ 660 → M a i = M0 a i) → (∀ (i : Int), i ≠ 80 → i ≠ 81 → M 598 i = M0 598 i) → 0 ≤ i ∧ i ≤ 16 → (-1) ≤ c ∧ c ≤ 15 → 0 ≤ k ∧ k ≤ 299 → 300 - (k + 1) ≤ nO → XS M 0 0 0 1 (-1) → AK M → k < M 598 96 → c < M 598 88 ∨ c = -1 → 16 - i ≤ nM → jr A 1 xm_370 21 [(3, .int (Int32.ofInt (i))), (2, .int (Int32.ofInt (c))), (1, .int (Int32.ofInt (k))), (0, .ref (598))] [] M Q := by
  intro nM
  induction nM using Nat.strongRecOn with
  | ind nM ih =>
    intro M i c k hI_M hH_M hS_M hF_M hG_M h_i h_c h_k hy0 hy1 hy2 hy3 hy4 hm
    have hX := hy1
    have hA := hy2
    have ha := hA k (by omega) (by omega)
    have dpx := XS.dep hy1
    have b90 : (0 : Int) ≤ M 598 90 ∧ M 598 90 ≤ 2200 := hI_M 598 90 (by decide)
    refine jr.iload_n rfl rfl ?_
    refine jr.aload_n rfl rfl ?_
    obtain ⟨v1, e1⟩ : ∃ z, M 598 88 = z := ⟨_, rfl⟩
    have b1 : 0 ≤ v1 ∧ v1 ≤ 16 := by rw [← e1]; exact hI_M 598 88 (by decide)
    refine jr.getf (i := 88) (x := v1) (v := .int (Int32.ofInt (v1))) rfl rfl (by decide) rfl (by decide) rfl rfl e1 rfl ?_
    refine jr.icmp_ge rfl rfl (by omega) (by omega) (fun h26 => ?_) (fun h26 => ?_)
    · refine jr.iload_n rfl rfl ?_
      refine jr.iconst rfl ?_
      refine jr.icmp_ne rfl rfl (by omega) (by omega) (fun h59 => ?_) (fun h59 => ?_)
      · refine jr.aload_n rfl rfl ?_
        refine jr.getf (i := 95) (v := .ref 660) rfl rfl (by decide) rfl (by decide) rfl rfl rfl rfl ?_
        refine jr.aload_n rfl rfl ?_
        refine jr.getf (i := 99) (v := .ref 663) rfl rfl (by decide) rfl (by decide) rfl rfl rfl rfl ?_
        refine jr.iload_n rfl rfl ?_
        obtain ⟨v2, e2⟩ : ∃ z, M 663 k = z := ⟨_, rfl⟩
        have b2 : 0 ≤ v2 ∧ v2 ≤ 2200 := by rw [← e2]; exact (by have q := hI_M 663 k (by decide); rw [xri_row rfl rfl] at q; exact q)
        refine jr.iald (i := k) (x := v2) rfl (by decide) rfl (by decide) (by omega) (by omega) e2 ?_
        refine jr.iload_n rfl rfl ?_
        refine jr.i2l rfl (by omega) ?_
        refine jr.last (i := v2) (x := c) rfl (by decide) rfl (by decide) (by omega) (by omega) ?_
        refine jr.iinc (ls' := [_, _, _, _]) rfl rfl (by decide) rfl ?_
        refine jr.goto rfl rfl ?_
        refine jr.pick (ls := [_, _]) [0, 3] rfl rfl ?_
        exact ko (ju M 660 v2 c) (k + 1) (RI.u hI_M (a := 660) (i := v2) (by rw [xri_row rfl rfl]; show (-9223372036854775808 : Int) ≤ _ ∧ _ ≤ (9223372036854775807 : Int); omega)) (RH.o hH_M (by decide) (by decide) (by decide)) (RF.o hS_M (by decide) (by decide))  (fun a i f598 f660 => ((ju_c _ _ f660).trans (hF_M a i f598 f660))) (fun i g80 g81 => ((ju_c _ _ (by decide)).trans (hG_M i g80 g81))) (by omega) (XS.asks hX (by rw [← e2]; exact ha.2.2) (by omega)) (AK.cp (M' := (ju M 660 v2 c)) hA (CP.o (CP.rfl _) (by decide) (Or.inl (by decide))) (fun i => ju_c _ _ (by decide)) (ju_c _ _ (by decide))) (by omega)
      · refine jr.aload_n rfl rfl ?_
        refine jr.bipush rfl (by decide) ?_
        refine jr.aload_n rfl rfl ?_
        refine jr.getf (i := 98) (v := .ref 662) rfl rfl (by decide) rfl (by decide) rfl rfl rfl rfl ?_
        refine jr.iload_n rfl rfl ?_
        obtain ⟨v3, e3⟩ : ∃ z, M 662 k = z := ⟨_, rfl⟩
        have b3 : 0 ≤ v3 ∧ v3 ≤ 1600 := by rw [← e3]; exact (by have q := hI_M 662 k (by decide); rw [xri_row rfl rfl] at q; exact q)
        refine jr.iald (i := k) (x := v3) rfl (by decide) rfl (by decide) (by omega) (by omega) e3 ?_
        obtain ⟨v5, e5⟩ : ∃ z, M 598 73 = z := ⟨_, rfl⟩
        have b5 : 0 ≤ v5 ∧ v5 ≤ 1600 := by rw [← e5]; exact hI_M 598 73 (by decide)
        obtain ⟨v7, e7⟩ : ∃ z, M 598 74 = z := ⟨_, rfl⟩
        have b7 : 0 ≤ v7 ∧ v7 ≤ 4 := by rw [← e7]; exact hI_M 598 74 (by decide)
        obtain ⟨v9, e9⟩ : ∃ z, M 598 89 = z := ⟨_, rfl⟩
        have b9 : 0 ≤ v9 ∧ v9 ≤ 301 := by rw [← e9]; exact hI_M 598 89 (by decide)
        obtain ⟨v11, e11⟩ : ∃ z, M 598 100 = z := ⟨_, rfl⟩
        have b11 : 0 ≤ v11 ∧ v11 ≤ 13 := by rw [← e11]; exact hI_M 598 100 (by decide)
        refine jr_v rfl rfl (Or.inl rfl) rfl rfl (by decide) rfl ⟨rfl, Nat.le_of_ble_eq_true rfl, Nat.le_of_ble_eq_true rfl⟩ rfl (jc.deep (r_fails hI_M hH_M hS_M  (by omega) (by omega)  (fun M4 hI_M4 hH_M4 hS_M4  w4_0 w4_1 w4_2 => ?_)) (by decide))
        have tk4 : TK M4 = TK M := TK.fr (w4_2 73 (by decide) (by decide)) (w4_2 74 (by decide) (by decide))
        have y6 : M 598 73 = v5 := e5
        have y8 : M 598 74 = v7 := e7
        have y10 : M 598 89 = v9 := e9
        have y12 : M 598 100 = v11 := e11
        have x4_73 := w4_2 73 (by decide) (by decide)
        have x4_74 := w4_2 74 (by decide) (by decide)
        have x4_89 := w4_2 89 (by decide) (by decide)
        have x4_100 := w4_2 100 (by decide) (by decide)
        have hX := XS.fr2 hX w4_1 (w4_2 88 (by decide) (by decide)) (w4_2 90 (by decide) (by decide)) (w4_2 101 (by decide) (by decide)) (w4_2 107 (by decide) (by decide)) (k' := 0) (d' := 0) (z' := 1) (by omega) (by omega) (by omega) (by omega)
        have hA := AK.cp hA (CP.f (CP.rfl _) (fun i => w4_1 659 i (by decide)) (w4_2 90 (by decide) (by decide))) (fun i => w4_1 663 i (by decide)) (w4_2 96 (by decide) (by decide))
        refine jr.goto rfl rfl ?_
        refine jr.iinc (ls' := [_, _, _, _]) rfl rfl (by decide) rfl ?_
        refine jr.goto rfl rfl ?_
        refine jr.pick (ls := [_, _]) [0, 3] rfl rfl ?_
        exact ko M4 (k + 1) hI_M4 hH_M4 hS_M4  (fun a i f598 f660 => ((w4_1 a i f598).trans (hF_M a i f598 f660))) (fun i g80 g81 => ((w4_2 i g80 g81).trans (hG_M i g80 g81))) (by omega) hX hA (by omega)
    · refine jr.aload_n rfl rfl ?_
      refine jr.getf (i := 91) (v := .ref 656) rfl rfl (by decide) rfl (by decide) rfl rfl rfl rfl ?_
      refine jr.iload_n rfl rfl ?_
      obtain ⟨v13, e13⟩ : ∃ z, M 656 i = z := ⟨_, rfl⟩
      have b13 : (-9223372036854775808) ≤ v13 ∧ v13 ≤ 9223372036854775807 := by rw [← e13]; exact (by have q := hI_M 656 i (by decide); rw [xri_row rfl rfl] at q; exact q)
      refine jr.lald (i := i) (x := v13) rfl (by decide) rfl (by decide) (by omega) (by omega) e13 ?_
      refine jr.aload_n rfl rfl ?_
      refine jr.getf (i := 97) (v := .ref 661) rfl rfl (by decide) rfl (by decide) rfl rfl rfl rfl ?_
      refine jr.iload_n rfl rfl ?_
      obtain ⟨v14, e14⟩ : ∃ z, M 661 k = z := ⟨_, rfl⟩
      have b14 : (-9223372036854775808) ≤ v14 ∧ v14 ≤ 9223372036854775807 := by rw [← e14]; exact (by have q := hI_M 661 k (by decide); rw [xri_row rfl rfl] at q; exact q)
      refine jr.lald (i := k) (x := v14) rfl (by decide) rfl (by decide) (by omega) (by omega) e14 ?_
      refine jr.lcmp_ne rfl rfl rfl (by omega) (by omega) (fun h41 => ?_) (fun h41 => ?_)
      · refine jr.iload_n rfl rfl ?_
        refine jr.istore_n (ls' := [_, _, _, _]) rfl (by decide) rfl ?_
        refine jr.iinc (ls' := [_, _, _, _]) rfl rfl (by decide) rfl ?_
        refine jr.goto rfl rfl ?_
        obtain ⟨v15, e15⟩ : ∃ z, M 598 96 = z := ⟨_, rfl⟩
        have b15 : 0 ≤ v15 ∧ v15 ≤ 300 := by rw [← e15]; exact hI_M 598 96 (by decide)
        refine jr.pick (ls := [_, _, _, _]) [0, 1, 2, 3] rfl rfl ?_
        exact ih (nM - 1) (by omega) M (i + 1) c k hI_M hH_M hS_M  (fun a i f598 f660 => (hF_M a i f598 f660)) (fun i g80 g81 => (hG_M i g80 g81)) (by omega) (by omega) (by omega) (by omega) hX hA (by rw [e15] <;> omega) (by rw [e1] <;> omega) (by omega)
      · refine jr.iload_n rfl rfl ?_
        refine jr.goto rfl rfl ?_
        refine jr.istore_n (ls' := [_, _, _, _]) rfl (by decide) rfl ?_
        refine jr.iinc (ls' := [_, _, _, _]) rfl rfl (by decide) rfl ?_
        refine jr.goto rfl rfl ?_
        obtain ⟨v16, e16⟩ : ∃ z, M 598 96 = z := ⟨_, rfl⟩
        have b16 : 0 ≤ v16 ∧ v16 ≤ 300 := by rw [← e16]; exact hI_M 598 96 (by decide)
        refine jr.pick (ls := [_, _, _, _]) [0, 1, 2, 3] rfl rfl ?_
        exact ih (nM - 1) (by omega) M (i + 1) i k hI_M hH_M hS_M  (fun a i f598 f660 => (hF_M a i f598 f660)) (fun i g80 g81 => (hG_M i g80 g81)) (by omega) (by omega) (by omega) (by omega) hX hA (by rw [e16] <;> omega) (by rw [e1] <;> omega) (by omega)
end
