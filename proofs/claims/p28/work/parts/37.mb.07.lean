theorem r_copy_L226 {A : Nat → Option (Nat × (Nat → Int32))} {Q : Option Value → jm → Prop} {M0 : jm} (q : ∀ (M' : jm), RI M' → RH M' → RF M' → (∀ (a : Nat) (i : Int), a ≠ 598 → a ≠ 676 → a ≠ 677 → a ≠ 678 → M' a i = M0 a i) → (∀ (i : Int), i ≠ 135 → M' 598 i = M0 598 i) → Q none M') : ∀ (nM : Nat) (M : jm) (m : Int) (t : Int) (f : Int) (h : Int) (n : Int), RI M → RH M → RF M → (∀ (a : Nat) (i : Int), a ≠ 598 → a ≠ 676 → a ≠ 677 → a ≠ 678 → M a i = M0 a i) → (∀ (i : Int), i ≠ 135 → M 598 i = M0 598 i) → 0 ≤ m ∧ m ≤ 40 → 0 ≤ t ∧ t ≤ 320 → 0 ≤ f ∧ f ≤ 320 → 0 ≤ h ∧ h ≤ 1 → 0 ≤ n ∧ n ≤ 40 → f + n ≤ 320 → t + n ≤ 320 → m ≤ n → 40 - m ≤ nM → jr A 1 xm_399 226 [(16, .int (Int32.ofInt (m))), (15, .int (Int32.ofInt (t))), (14, .int (Int32.ofInt (f))), (13, .int (Int32.ofInt (h))), (9, .long (Int64.ofInt (n))), (0, .ref (598))] [] M Q := by
  intro nM
  induction nM using Nat.strongRecOn with
  | ind nM ih =>
    intro M m t f h n hI_M hH_M hS_M hF_M hG_M h_m h_t h_f h_h h_n hy0 hy1 hy2 hm
    refine jr.iload rfl rfl ?_
    refine jr.i2l rfl (by omega) ?_
    refine jr.lload rfl rfl ?_
    refine jr.lcmp_ge rfl rfl rfl (by omega) (by omega) (fun h231 => ?_) (fun h231 => ?_)
    · refine jr.aload_n rfl rfl ?_
      refine jr.iload rfl rfl ?_
      refine jr.i2l rfl (by omega) ?_
      refine jr.lload rfl rfl ?_
      refine jr.lcmp_ge rfl rfl rfl (by omega) (by omega) (fun h277 => ?_) (fun h277 => ?_)
      · refine jr.iconst rfl ?_
        refine jr.putf (i := 135) (x := 0) rfl rfl (by decide) rfl (by decide) rfl rfl rfl rfl rfl ?_
        refine jr.iconst rfl ?_
        refine jr.istore rfl (by decide) rfl ?_
        refine jr.pick [0, 1, 2, 3, 4, 6] rfl rfl ?_
        exact r_copy_L292 q 40 (ju M 598 135 0) 0 m t f h (RI.u hI_M (a := 598) (i := 135) (show (0 : Int) ≤ _ ∧ _ ≤ (8 : Int) from by omega)) (RH.o hH_M (by decide) (by decide) (by decide)) (RF.o hS_M (by decide) (by decide))  (fun a i f598 f676 f677 f678 => ((ju_c _ _ f598).trans (hF_M a i f598 f676 f677 f678))) (fun i g135 => ((ju_i _ _ g135).trans (hG_M i g135))) (by omega) (by omega) (by omega) (by omega) (by omega) (by omega) (by omega) (by omega)
      · refine jr.iconst rfl ?_
        refine jr.goto rfl rfl ?_
        refine jr.putf (i := 135) (x := 5) rfl rfl (by decide) rfl (by decide) rfl rfl rfl rfl rfl ?_
        refine jr.iconst rfl ?_
        refine jr.istore rfl (by decide) rfl ?_
        refine jr.pick [0, 1, 2, 3, 4, 6] rfl rfl ?_
        exact r_copy_L292 q 40 (ju M 598 135 5) 0 m t f h (RI.u hI_M (a := 598) (i := 135) (show (0 : Int) ≤ _ ∧ _ ≤ (8 : Int) from by omega)) (RH.o hH_M (by decide) (by decide) (by decide)) (RF.o hS_M (by decide) (by decide))  (fun a i f598 f676 f677 f678 => ((ju_c _ _ f598).trans (hF_M a i f598 f676 f677 f678))) (fun i g135 => ((ju_i _ _ g135).trans (hG_M i g135))) (by omega) (by omega) (by omega) (by omega) (by omega) (by omega) (by omega) (by omega)
    · refine jr.aload_n rfl rfl ?_
      refine jr.getf (i := 120) (v := .ref 677) rfl rfl (by decide) rfl (by decide) rfl rfl rfl rfl ?_
      refine jr.iload rfl rfl ?_
      refine jr.iload rfl rfl ?_
      refine jr.iadd rfl ?_
      obtain ⟨v1, e1⟩ : ∃ z, M 677 (f + m) = z := ⟨_, rfl⟩
      have b1 : (-1) ≤ v1 ∧ v1 ≤ 11 := by rw [← e1]; exact (by have q := hI_M 677 (f + m) (by decide); rw [xri_row rfl rfl] at q; exact q)
      refine jr.iald (i := (f + m)) (x := v1) rfl (by decide) rfl (by decide) (by omega) (by omega) e1 ?_
      refine jr.iconst rfl ?_
      refine jr.icmp_eq rfl rfl (by omega) (by omega) (fun h246 => ?_) (fun h246 => ?_)
      · refine jr.iinc rfl rfl (by decide) rfl ?_
        refine jr.goto rfl rfl ?_
        refine jr.pick [0, 1, 2, 3, 4, 5] rfl rfl ?_
        exact ih (nM - 1) (by omega) M (m + 1) t f h n hI_M hH_M hS_M  (fun a i f598 f676 f677 f678 => (hF_M a i f598 f676 f677 f678)) (fun i g135 => (hG_M i g135)) (by omega) (by omega) (by omega) (by omega) (by omega) (by omega) (by omega) (by omega) (by omega)
      · refine jr.aload_n rfl rfl ?_
        refine jr.getf (i := 120) (v := .ref 677) rfl rfl (by decide) rfl (by decide) rfl rfl rfl rfl ?_
        refine jr.iload rfl rfl ?_
        refine jr.iload rfl rfl ?_
        refine jr.iadd rfl ?_
        refine jr.iald (i := (f + m)) (x := v1) rfl (by decide) rfl (by decide) (by omega) (by omega) e1 ?_
        refine jr_s rfl rfl (Or.inl rfl) ⟨Nat.le_of_ble_eq_true rfl, Nat.le_of_ble_eq_true rfl⟩ rfl rfl (jc.deep (c_isCarried (by omega) (fun c259 => ?_) (fun c259 => ?_)) (by decide))
        · refine jr.if_eq rfl rfl (by omega) (fun h => absurd h (by decide)) (fun _ => ?_)
          refine jr.iinc rfl rfl (by decide) rfl ?_
          refine jr.goto rfl rfl ?_
          refine jr.pick [0, 1, 2, 3, 4, 5] rfl rfl ?_
          exact ih (nM - 1) (by omega) M (m + 1) t f h n hI_M hH_M hS_M  (fun a i f598 f676 f677 f678 => (hF_M a i f598 f676 f677 f678)) (fun i g135 => (hG_M i g135)) (by omega) (by omega) (by omega) (by omega) (by omega) (by omega) (by omega) (by omega) (by omega)
        · refine jr.if_eq rfl rfl (by omega) (fun _ => ?_) (fun h => absurd (by decide) h)
          refine jr.aload_n rfl rfl ?_
          refine jr.iload rfl rfl ?_
          refine jr.i2l rfl (by omega) ?_
          refine jr.lload rfl rfl ?_
          refine jr.lcmp_ge rfl rfl rfl (by omega) (by omega) (fun h277 => ?_) (fun h277 => ?_)
          · refine jr.iconst rfl ?_
            refine jr.putf (i := 135) (x := 0) rfl rfl (by decide) rfl (by decide) rfl rfl rfl rfl rfl ?_
            refine jr.iconst rfl ?_
            refine jr.istore rfl (by decide) rfl ?_
            refine jr.pick [0, 1, 2, 3, 4, 6] rfl rfl ?_
            exact r_copy_L292 q 40 (ju M 598 135 0) 0 m t f h (RI.u hI_M (a := 598) (i := 135) (show (0 : Int) ≤ _ ∧ _ ≤ (8 : Int) from by omega)) (RH.o hH_M (by decide) (by decide) (by decide)) (RF.o hS_M (by decide) (by decide))  (fun a i f598 f676 f677 f678 => ((ju_c _ _ f598).trans (hF_M a i f598 f676 f677 f678))) (fun i g135 => ((ju_i _ _ g135).trans (hG_M i g135))) (by omega) (by omega) (by omega) (by omega) (by omega) (by omega) (by omega) (by omega)
          · refine jr.iconst rfl ?_
            refine jr.goto rfl rfl ?_
            refine jr.putf (i := 135) (x := 5) rfl rfl (by decide) rfl (by decide) rfl rfl rfl rfl rfl ?_
            refine jr.iconst rfl ?_
            refine jr.istore rfl (by decide) rfl ?_
            refine jr.pick [0, 1, 2, 3, 4, 6] rfl rfl ?_
            exact r_copy_L292 q 40 (ju M 598 135 5) 0 m t f h (RI.u hI_M (a := 598) (i := 135) (show (0 : Int) ≤ _ ∧ _ ≤ (8 : Int) from by omega)) (RH.o hH_M (by decide) (by decide) (by decide)) (RF.o hS_M (by decide) (by decide))  (fun a i f598 f676 f677 f678 => ((ju_c _ _ f598).trans (hF_M a i f598 f676 f677 f678))) (fun i g135 => ((ju_i _ _ g135).trans (hG_M i g135))) (by omega) (by omega) (by omega) (by omega) (by omega) (by omega) (by omega) (by omega)
theorem r_copy_L180 {A : Nat → Option (Nat × (Nat → Int32))} {Q : Option Value → jm → Prop} {M0 : jm} (q : ∀ (M' : jm), RI M' → RH M' → RF M' → (∀ (a : Nat) (i : Int), a ≠ 598 → a ≠ 676 → a ≠ 677 → a ≠ 678 → M' a i = M0 a i) → (∀ (i : Int), i ≠ 135 → M' 598 i = M0 598 i) → Q none M') : ∀ (M : jm) (h : Int) (b : Int) (a : Int) (n : Int) (j : Int) (i : Int), RI M → RH M → RF M → (∀ (a : Nat) (i : Int), a ≠ 598 → a ≠ 676 → a ≠ 677 → a ≠ 678 → M a i = M0 a i) → (∀ (i : Int), i ≠ 135 → M 598 i = M0 598 i) → 0 ≤ h ∧ h ≤ 1 → 0 ≤ b ∧ b ≤ 7 → 0 ≤ a ∧ a ≤ 7 → 0 ≤ n ∧ n ≤ 40 → 0 ≤ j ∧ j ≤ 40 → 0 ≤ i ∧ i ≤ 40 → i + n ≤ 40 → j + n ≤ 40 → jr A 1 xm_399 180 [(13, .int (Int32.ofInt (h))), (12, .int (Int32.ofInt (b))), (11, .int (Int32.ofInt (a))), (9, .long (Int64.ofInt (n))), (7, .long (Int64.ofInt (j))), (3, .long (Int64.ofInt (i))), (0, .ref (598))] [] M Q := by
    intro M h b a n j i hI_M hH_M hS_M hF_M hG_M h_h h_b h_a h_n h_j h_i hy0 hy1
    refine jr.bipush rfl (by decide) ?_
    refine jr.iload rfl rfl ?_
    refine jr.imul rfl ?_
    refine jr.lload_n rfl rfl ?_
    refine jr.l2i rfl ?_
    refine jr.iadd rfl ?_
    refine jr.istore rfl (by decide) rfl ?_
    refine jr.bipush rfl (by decide) ?_
    refine jr.iload rfl rfl ?_
    refine jr.imul rfl ?_
    refine jr.lload rfl rfl ?_
    refine jr.l2i rfl ?_
    refine jr.iadd rfl ?_
    refine jr.istore rfl (by decide) rfl ?_
    refine jr.lload rfl rfl ?_
    refine jr.l2i rfl ?_
    refine jr.istore rfl (by decide) rfl ?_
    refine jr.iload rfl rfl ?_
    refine jr.if_eq rfl rfl (by omega) (fun h208 => ?_) (fun h208 => ?_)
    · refine jr.iconst rfl ?_
      refine jr.istore rfl (by decide) rfl ?_
      refine jr.pick [0, 1, 2, 3, 4, 10] rfl rfl ?_
      exact r_copy_L292 q 40 M 0 n ((40 * b) + j) ((40 * a) + i) h hI_M hH_M hS_M  (fun a i f598 f676 f677 f678 => (hF_M a i f598 f676 f677 f678)) (fun i g135 => (hG_M i g135)) (by omega) (by omega) (by omega) (by omega) (by omega) (by omega) (by omega) (by omega)
    · have sx208 : (1 : Int) ≤ h := by omega
      refine jr.aload_n rfl rfl ?_
      refine jr.getf (i := 117) (v := .ref 674) rfl rfl (by decide) rfl (by decide) rfl rfl rfl rfl ?_
      refine jr.iload rfl rfl ?_
      obtain ⟨v1, e1⟩ : ∃ z, M 674 b = z := ⟨_, rfl⟩
      have b1 : (-1) ≤ v1 ∧ v1 ≤ 6 := by rw [← e1]; exact (by have q := hI_M 674 b (by decide); rw [xri_row rfl rfl] at q; exact q)
      refine jr.iald (i := b) (x := v1) rfl (by decide) rfl (by decide) (by omega) (by omega) e1 ?_
      refine jr.bipush rfl (by decide) ?_
      refine jr.icmp_ne rfl rfl (by omega) (by omega) (fun h220 => ?_) (fun h220 => ?_)
      · have sx220 : v1 ≤ (5 : Int) := by omega
        refine jr.iconst rfl ?_
        refine jr.istore rfl (by decide) rfl ?_
        refine jr.pick [0, 1, 2, 3, 4, 10] rfl rfl ?_
        exact r_copy_L292 q 40 M 0 n ((40 * b) + j) ((40 * a) + i) h hI_M hH_M hS_M  (fun a i f598 f676 f677 f678 => (hF_M a i f598 f676 f677 f678)) (fun i g135 => (hG_M i g135)) (by omega) (by omega) (by omega) (by omega) (by omega) (by omega) (by omega) (by omega)
      · refine jr.iconst rfl ?_
        refine jr.istore rfl (by decide) rfl ?_
        refine jr.pick [0, 1, 2, 3, 6, 9] rfl rfl ?_
        exact r_copy_L226 q 40 M 0 ((40 * b) + j) ((40 * a) + i) h n hI_M hH_M hS_M  (fun a i f598 f676 f677 f678 => (hF_M a i f598 f676 f677 f678)) (fun i g135 => (hG_M i g135)) (by omega) (by omega) (by omega) (by omega) (by omega) (by omega) (by omega) (by omega) (by omega)
