theorem r_list_L130 {A : Nat → Option (Nat × (Nat → Int32))} {Q : Option Value → jm → Prop} {M0 : jm} (q : ∀ (M' : jm), RI M' → RH M' → RF M' → (∀ (a : Nat) (i : Int), a ≠ 598 → a ≠ 603 → a ≠ 604 → a ≠ 605 → a ≠ 674 → a ≠ 675 → a ≠ 677 → a ≠ 678 → M' a i = M0 a i) → (∀ (i : Int), i ≠ 6 → i ≠ 10 → i ≠ 11 → i ≠ 12 → i ≠ 110 → i ≠ 135 → M' 598 i = M0 598 i) → Q none M') (nO : Nat) (ko : ∀ (M : jm) (h : Int) (k : Int), RI M → RH M → RF M → (∀ (a : Nat) (i : Int), a ≠ 598 → a ≠ 603 → a ≠ 604 → a ≠ 605 → a ≠ 674 → a ≠ 675 → a ≠ 677 → a ≠ 678 → M a i = M0 a i) → (∀ (i : Int), i ≠ 6 → i ≠ 10 → i ≠ 11 → i ≠ 12 → i ≠ 110 → i ≠ 135 → M 598 i = M0 598 i) → 0 ≤ h ∧ h ≤ 12 → 0 ≤ k ∧ k ≤ 7 → 12 - h ≤ nO → jr A 6 xm_401 97 [(3, .int (Int32.ofInt (h))), (1, .long (Int64.ofInt (k))), (0, .ref (598))] [] M Q) : ∀ (nM : Nat) (M : jm) (f : Int) (a : Int) (h : Int) (k : Int), RI M → RH M → RF M → (∀ (a : Nat) (i : Int), a ≠ 598 → a ≠ 603 → a ≠ 604 → a ≠ 605 → a ≠ 674 → a ≠ 675 → a ≠ 677 → a ≠ 678 → M a i = M0 a i) → (∀ (i : Int), i ≠ 6 → i ≠ 10 → i ≠ 11 → i ≠ 12 → i ≠ 110 → i ≠ 135 → M 598 i = M0 598 i) → 0 ≤ f ∧ f ≤ 11 → 0 ≤ a ∧ a ≤ 319 → 0 ≤ h ∧ h ≤ 11 → 0 ≤ k ∧ k ≤ 7 → 12 - (h + 1) ≤ nO → 11 - f ≤ nM → jr A 6 xm_401 130 [(5, .int (Int32.ofInt (f))), (4, .int (Int32.ofInt (a))), (3, .int (Int32.ofInt (h))), (1, .long (Int64.ofInt (k))), (0, .ref (598))] [] M Q := by
  intro nM
  induction nM using Nat.strongRecOn with
  | ind nM ih =>
    intro M f a h k hI_M hH_M hS_M hF_M hG_M h_f h_a h_h h_k hy0 hm
    have fk := fldn_le (M 603 h)
    refine jr.iload rfl rfl ?_
    refine jr.aload_n rfl rfl ?_
    refine jr.getf (i := 7) (v := .ref 603) rfl rfl (by decide) rfl (by decide) rfl rfl rfl rfl ?_
    refine jr.iload_n rfl rfl ?_
    obtain ⟨v1, e1⟩ : ∃ z, M 603 h = z := ⟨_, rfl⟩
    have b1 : 0 ≤ v1 ∧ v1 ≤ 11 := by rw [← e1]; exact (by have q := hI_M 603 h (by decide); rw [xri_row rfl rfl] at q; exact q)
    refine jr.iald (i := h) (x := v1) rfl (by decide) rfl (by decide) (by omega) (by omega) e1 ?_
    refine jr_s rfl rfl (Or.inl rfl) ⟨Nat.le_of_ble_eq_true rfl, Nat.le_of_ble_eq_true rfl⟩ rfl rfl (jc.deep (r_fields hI_M hH_M hS_M (Kp.rfl _) (by omega)  (fun r2 z2 w2_0 => ?_)) (by decide))
    refine jr.icmp_ge rfl rfl (by omega) (by omega) (fun h141 => ?_) (fun h141 => ?_)
    · refine jr.iinc rfl rfl (by decide) rfl ?_
      refine jr.goto rfl rfl ?_
      refine jr.pick [0, 3, 4] rfl rfl ?_
      exact ko M (h + 1) k hI_M hH_M hS_M  (fun a i f598 f603 f604 f605 f674 f675 f677 f678 => (hF_M a i f598 f603 f604 f605 f674 f675 f677 f678)) (fun i g6 g10 g11 g12 g110 g135 => (hG_M i g6 g10 g11 g12 g110 g135)) (by omega) (by omega)  (by omega)
    · refine jr.aload_n rfl rfl ?_
      refine jr.getf (i := 121) (v := .ref 678) rfl rfl (by decide) rfl (by decide) rfl rfl rfl rfl ?_
      refine jr.bipush rfl (by decide) ?_
      refine jr.iload rfl rfl ?_
      refine jr.imul rfl ?_
      refine jr.iload rfl rfl ?_
      refine jr.iadd rfl ?_
      refine jr.aload_n rfl rfl ?_
      refine jr.aload_n rfl rfl ?_
      obtain ⟨v3, e3⟩ : ∃ z, M 598 133 = z := ⟨_, rfl⟩
      have b3 : 0 ≤ v3 ∧ v3 ≤ 23 := by rw [← e3]; exact hI_M 598 133 (by decide)
      refine jr.getf (i := 133) (x := v3) (v := .int (Int32.ofInt (v3))) rfl rfl (by decide) rfl (by decide) rfl rfl e3 rfl ?_
      refine jr.aload_n rfl rfl ?_
      refine jr.getf (i := 7) (v := .ref 603) rfl rfl (by decide) rfl (by decide) rfl rfl rfl rfl ?_
      refine jr.iload_n rfl rfl ?_
      refine jr.iald (i := h) (x := v1) rfl (by decide) rfl (by decide) (by omega) (by omega) e1 ?_
      refine jr.aload_n rfl rfl ?_
      refine jr.getf (i := 8) (v := .ref 604) rfl rfl (by decide) rfl (by decide) rfl rfl rfl rfl ?_
      refine jr.iload_n rfl rfl ?_
      obtain ⟨v4, e4⟩ : ∃ z, M 604 h = z := ⟨_, rfl⟩
      have b4 : 0 ≤ v4 ∧ v4 ≤ 400 := by rw [← e4]; exact (by have q := hI_M 604 h (by decide); rw [xri_row rfl rfl] at q; exact q)
      refine jr.iald (i := h) (x := v4) rfl (by decide) rfl (by decide) (by omega) (by omega) e4 ?_
      refine jr.aload_n rfl rfl ?_
      refine jr.getf (i := 9) (v := .ref 605) rfl rfl (by decide) rfl (by decide) rfl rfl rfl rfl ?_
      refine jr.iload_n rfl rfl ?_
      obtain ⟨v5, e5⟩ : ∃ z, M 605 h = z := ⟨_, rfl⟩
      have b5 : 0 ≤ v5 ∧ v5 ≤ 400 := by rw [← e5]; exact (by have q := hI_M 605 h (by decide); rw [xri_row rfl rfl] at q; exact q)
      refine jr.iald (i := h) (x := v5) rfl (by decide) rfl (by decide) (by omega) (by omega) e5 ?_
      refine jr.iload rfl rfl ?_
      refine jr_v rfl rfl (Or.inl rfl) rfl rfl (by decide) rfl ⟨rfl, Nat.le_of_ble_eq_true rfl, Nat.le_of_ble_eq_true rfl⟩ rfl (jc.deep (r_valueOf hI_M hH_M hS_M (Kp.rfl _) (by omega) (by omega) (by omega) (by omega) (by omega) (by have q := (hH_M h).1; rw [e4, e1] at q; exact q) (by omega) (fun r6 z6  => ?_)) (by decide))
      refine jr.last (i := ((11 * a) + f)) (x := r6) rfl (by decide) rfl (by decide) (by omega) (by omega) ?_
      refine jr.iinc rfl rfl (by decide) rfl ?_
      refine jr.goto rfl rfl ?_
      refine jr.pick [0, 1, 2, 3, 4] rfl rfl ?_
      exact ih (nM - 1) (by omega) (ju M 678 ((11 * a) + f) r6) (f + 1) a h k (RI.u hI_M (a := 678) (i := ((11 * a) + f)) (by rw [xri_row rfl rfl]; show (-9223372036854775808 : Int) ≤ _ ∧ _ ≤ (9223372036854775807 : Int); omega)) (RH.o hH_M (by decide) (by decide) (by decide)) (RF.o hS_M (by decide) (by decide))  (fun a i f598 f603 f604 f605 f674 f675 f677 f678 => ((ju_c _ _ f678).trans (hF_M a i f598 f603 f604 f605 f674 f675 f677 f678))) (fun i g6 g10 g11 g12 g110 g135 => ((ju_c _ _ (by decide)).trans (hG_M i g6 g10 g11 g12 g110 g135))) (by omega) (by omega) (by omega) (by omega) (by omega) (by omega)
theorem r_list_L97 {A : Nat → Option (Nat × (Nat → Int32))} {Q : Option Value → jm → Prop} {M0 : jm} (q : ∀ (M' : jm), RI M' → RH M' → RF M' → (∀ (a : Nat) (i : Int), a ≠ 598 → a ≠ 603 → a ≠ 604 → a ≠ 605 → a ≠ 674 → a ≠ 675 → a ≠ 677 → a ≠ 678 → M' a i = M0 a i) → (∀ (i : Int), i ≠ 6 → i ≠ 10 → i ≠ 11 → i ≠ 12 → i ≠ 110 → i ≠ 135 → M' 598 i = M0 598 i) → Q none M') : ∀ (nM : Nat) (M : jm) (h : Int) (k : Int), RI M → RH M → RF M → (∀ (a : Nat) (i : Int), a ≠ 598 → a ≠ 603 → a ≠ 604 → a ≠ 605 → a ≠ 674 → a ≠ 675 → a ≠ 677 → a ≠ 678 → M a i = M0 a i) → (∀ (i : Int), i ≠ 6 → i ≠ 10 → i ≠ 11 → i ≠ 12 → i ≠ 110 → i ≠ 135 → M 598 i = M0 598 i) → 0 ≤ h ∧ h ≤ 12 → 0 ≤ k ∧ k ≤ 7 → 12 - h ≤ nM → jr A 6 xm_401 97 [(3, .int (Int32.ofInt (h))), (1, .long (Int64.ofInt (k))), (0, .ref (598))] [] M Q := by
  intro nM
  induction nM using Nat.strongRecOn with
  | ind nM ih =>
    intro M h k hI_M hH_M hS_M hF_M hG_M h_h h_k hm
    refine jr.iload_n rfl rfl ?_
    refine jr.aload_n rfl rfl ?_
    obtain ⟨v1, e1⟩ : ∃ z, M 598 6 = z := ⟨_, rfl⟩
    have b1 : 0 ≤ v1 ∧ v1 ≤ 12 := by rw [← e1]; exact hI_M 598 6 (by decide)
    refine jr.getf (i := 6) (x := v1) (v := .int (Int32.ofInt (v1))) rfl rfl (by decide) rfl (by decide) rfl rfl e1 rfl ?_
    refine jr.icmp_ge rfl rfl (by omega) (by omega) (fun h102 => ?_) (fun h102 => ?_)
    · exact jr.vreturn rfl rfl (q _ hI_M hH_M hS_M  (fun a i f598 f603 f604 f605 f674 f675 f677 f678 => (hF_M a i f598 f603 f604 f605 f674 f675 f677 f678)) (fun i g6 g10 g11 g12 g110 g135 => (hG_M i g6 g10 g11 g12 g110 g135)))
    · refine jr.bipush rfl (by decide) ?_
      refine jr.lload_n rfl rfl ?_
      refine jr.l2i rfl ?_
      refine jr.imul rfl ?_
      refine jr.iload_n rfl rfl ?_
      refine jr.iadd rfl ?_
      refine jr.istore rfl (by decide) rfl ?_
      refine jr.aload_n rfl rfl ?_
      refine jr.getf (i := 120) (v := .ref 677) rfl rfl (by decide) rfl (by decide) rfl rfl rfl rfl ?_
      refine jr.iload rfl rfl ?_
      refine jr.aload_n rfl rfl ?_
      refine jr.getf (i := 7) (v := .ref 603) rfl rfl (by decide) rfl (by decide) rfl rfl rfl rfl ?_
      refine jr.iload_n rfl rfl ?_
      obtain ⟨v2, e2⟩ : ∃ z, M 603 h = z := ⟨_, rfl⟩
      have b2 : 0 ≤ v2 ∧ v2 ≤ 11 := by rw [← e2]; exact (by have q := hI_M 603 h (by decide); rw [xri_row rfl rfl] at q; exact q)
      refine jr.iald (i := h) (x := v2) rfl (by decide) rfl (by decide) (by omega) (by omega) e2 ?_
      refine jr.iast (i := ((40 * k) + h)) (x := v2) rfl (by decide) rfl (by decide) (by omega) (by omega) ?_
      refine jr.iconst rfl ?_
      refine jr.istore rfl (by decide) rfl ?_
      refine jr.pick [0, 1, 2, 3, 4] rfl rfl ?_
      exact r_list_L130 q (nM - 1) (ih (nM - 1) (by omega)) 11 (ju M 677 ((40 * k) + h) v2) 0 ((40 * k) + h) h k (RI.u hI_M (a := 677) (i := ((40 * k) + h)) (by rw [xri_row rfl rfl]; show (-1 : Int) ≤ _ ∧ _ ≤ (11 : Int); omega)) (RH.o hH_M (by decide) (by decide) (by decide)) (RF.o hS_M (by decide) (by decide))  (fun a i f598 f603 f604 f605 f674 f675 f677 f678 => ((ju_c _ _ f677).trans (hF_M a i f598 f603 f604 f605 f674 f675 f677 f678))) (fun i g6 g10 g11 g12 g110 g135 => ((ju_c _ _ (by decide)).trans (hG_M i g6 g10 g11 g12 g110 g135))) (by omega) (by omega) (by omega) (by omega) (by omega) (by omega)
