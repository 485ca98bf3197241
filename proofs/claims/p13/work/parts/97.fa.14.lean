section
theorem r_change_x {A : Nat → Option (Nat × (Nat → Int32))} {Q : Option Value → jm → Prop} {M : jm} (hI_M : RI M) (hH_M : RH M) (hS_M : RF M) {f : Int} (h_f : (-2147483648) ≤ f ∧ f ≤ 2147483647) {k : Int} (h_k : (-2147483648) ≤ k ∧ k ≤ 2147483647) (q : ∀ (r : Int) (M' : jm), RI M' → RH M' → RF M' → (-5) ≤ r ∧ r ≤ 65567 → (((f < 0 ∨ 23 < f ∨ M 627 f = 0) ∧ r = -2 ∧ M' = M) ∨ (((0 ≤ f ∧ f ≤ 23) ∧ M 627 f ≠ 0) ∧ (((k < 0 ∨ 3 < k) ∧ r = -3 ∧ M' = M) ∨ ((0 ≤ k ∧ k ≤ 3) ∧ (M 628 f ≠ 0 ∨ M 629 f = 1 ∨ M 640 f ≠ -1 ∨ M 643 k = 0) ∧ r = -4 ∧ M' = M) ∨ (((0 ≤ k ∧ k ≤ 3) ∧ ¬ (M 628 f ≠ 0 ∨ M 629 f = 1 ∨ M 640 f ≠ -1 ∨ M 643 k = 0)) ∧ ((ch6 M (M 644 k) (M 645 k) (M 646 k).toNat 0 = -1 ∧ r = -5 ∧ M' = M) ∨ (ch6 M (M 644 k) (M 645 k) (M 646 k).toNat 0 ≠ -1 ∧ r = M 645 k + ch6 M (M 644 k) (M 645 k) (M 646 k).toNat 0 ∧ M' = ju (ju (ju M 640 f k) 641 f (M 644 k)) 642 f (M 645 k + ch6 M (M 644 k) (M 645 k) (M 646 k).toNat 0))))))) → (∀ (a : Nat) (i : Int), a ≠ 640 → a ≠ 641 → a ≠ 642 → M' a i = M a i) → Q (some (.int (Int32.ofInt r))) M') : jc A 3 321 [.ref (598), .int (Int32.ofInt (f)), .int (Int32.ofInt (k))] M Q := by
  have bq : (0 : Int) ≤ M 646 k ∧ M 646 k ≤ 32 := by have q := hI_M 646 k (by decide); rw [xri_row rfl rfl] at q; exact q
  refine jc_of (m := xm_321) rfl (Nat.le_of_ble_eq_true rfl) rfl ?_
  refine jr.aload_n rfl rfl ?_
  refine jr.iload_n rfl rfl ?_
  refine jr_v rfl rfl (Or.inl rfl) rfl rfl (by decide) rfl ⟨rfl, Nat.le_of_ble_eq_true rfl, Nat.le_of_ble_eq_true rfl⟩ rfl (jc.deep (c_isFlow hI_M (by omega) (fun l2 u2 t2 => ?_) (fun n2 => ?_)) (by decide))
  · refine jr.if_ne rfl rfl (by omega) (fun _ => ?_) (fun h => absurd (by decide) h)
    refine jr.iload_n rfl rfl ?_
    refine jr.i2l rfl (by omega) ?_
    refine jr.lconst (x := 0) rfl (by decide) ?_
    refine jr.ldc2 (x := 3) rfl rfl (by decide) ?_
    refine jr_s rfl rfl (Or.inl rfl) ⟨Nat.le_of_ble_eq_true rfl, Nat.le_of_ble_eq_true rfl⟩ rfl rfl (jc.deep (c_within (by omega) (by omega) (by omega) (fun l17 u17 => ?_) (fun n17 => ?_)) (by decide))
    · refine jr.if_ne rfl rfl (by omega) (fun _ => ?_) (fun h => absurd (by decide) h)
      refine jr.aload_n rfl rfl ?_
      refine jr.getf (i := 40) (v := .ref 628) rfl rfl (by decide) rfl (by decide) rfl rfl rfl rfl ?_
      refine jr.iload_n rfl rfl ?_
      obtain ⟨v1, e1⟩ : ∃ z, M 628 f = z := ⟨_, rfl⟩
      have b1 : 0 ≤ v1 ∧ v1 ≤ 1 := by rw [← e1]; exact (by have q := hI_M 628 f (by decide); rw [xri_row rfl rfl] at q; exact q)
      refine jr.zald (i := f) (x := v1) rfl (by decide) rfl (by decide) (by omega) (by omega) e1 ?_
      refine jr.if_ne rfl rfl (by omega) (fun h32 => ?_) (fun h32 => ?_)
      · have sx32 : (1 : Int) ≤ v1 := by omega
        clear h32
        refine jr.bipush rfl (by decide) ?_
        exact jr.ireturn rfl rfl rfl (q _ _ hI_M hH_M hS_M  (by omega) (Or.inr ⟨by omega, by first | exact Or.inl ⟨by omega, by omega, rfl⟩ | exact Or.inr (Or.inl ⟨by omega, by omega, by omega, rfl⟩)⟩) (fun a i f640 f641 f642 => rfl))
      · refine jr.aload_n rfl rfl ?_
        refine jr.getf (i := 41) (v := .ref 629) rfl rfl (by decide) rfl (by decide) rfl rfl rfl rfl ?_
        refine jr.iload_n rfl rfl ?_
        obtain ⟨v2, e2⟩ : ∃ z, M 629 f = z := ⟨_, rfl⟩
        have b2 : 0 ≤ v2 ∧ v2 ≤ 255 := by rw [← e2]; exact (by have q := hI_M 629 f (by decide); rw [xri_row rfl rfl] at q; exact q)
        refine jr.iald (i := f) (x := v2) rfl (by decide) rfl (by decide) (by omega) (by omega) e2 ?_
        refine jr.iconst rfl ?_
        refine jr.icmp_eq rfl rfl (by omega) (by omega) (fun h42 => ?_) (fun h42 => ?_)
        · refine jr.bipush rfl (by decide) ?_
          exact jr.ireturn rfl rfl rfl (q _ _ hI_M hH_M hS_M  (by omega) (Or.inr ⟨by omega, by first | exact Or.inl ⟨by omega, by omega, rfl⟩ | exact Or.inr (Or.inl ⟨by omega, by omega, by omega, rfl⟩)⟩) (fun a i f640 f641 f642 => rfl))
        · refine jr.aload_n rfl rfl ?_
          refine jr.getf (i := 52) (v := .ref 640) rfl rfl (by decide) rfl (by decide) rfl rfl rfl rfl ?_
          refine jr.iload_n rfl rfl ?_
          obtain ⟨v3, e3⟩ : ∃ z, M 640 f = z := ⟨_, rfl⟩
          have b3 : (-1) ≤ v3 ∧ v3 ≤ 3 := by rw [← e3]; exact (by have q := hI_M 640 f (by decide); rw [xri_row rfl rfl] at q; exact q)
          refine jr.iald (i := f) (x := v3) rfl (by decide) rfl (by decide) (by omega) (by omega) e3 ?_
          refine jr.iconst rfl ?_
          refine jr.icmp_ne rfl rfl (by omega) (by omega) (fun h52 => ?_) (fun h52 => ?_)
          · have sx52 : (0 : Int) ≤ v3 := by omega
            clear h52
            refine jr.bipush rfl (by decide) ?_
            exact jr.ireturn rfl rfl rfl (q _ _ hI_M hH_M hS_M  (by omega) (Or.inr ⟨by omega, by first | exact Or.inl ⟨by omega, by omega, rfl⟩ | exact Or.inr (Or.inl ⟨by omega, by omega, by omega, rfl⟩)⟩) (fun a i f640 f641 f642 => rfl))
          · refine jr.aload_n rfl rfl ?_
            refine jr.getf (i := 55) (v := .ref 643) rfl rfl (by decide) rfl (by decide) rfl rfl rfl rfl ?_
            refine jr.iload_n rfl rfl ?_
            obtain ⟨v4, e4⟩ : ∃ z, M 643 k = z := ⟨_, rfl⟩
            have b4 : 0 ≤ v4 ∧ v4 ≤ 1 := by rw [← e4]; exact (by have q := hI_M 643 k (by decide); rw [xri_row rfl rfl] at q; exact q)
            refine jr.zald (i := k) (x := v4) rfl (by decide) rfl (by decide) (by omega) (by omega) e4 ?_
            refine jr.if_ne rfl rfl (by omega) (fun h61 => ?_) (fun h61 => ?_)
            · have sx61 : (1 : Int) ≤ v4 := by omega
              clear h61
              refine jr.aload_n rfl rfl ?_
              refine jr.getf (i := 57) (v := .ref 645) rfl rfl (by decide) rfl (by decide) rfl rfl rfl rfl ?_
              refine jr.iload_n rfl rfl ?_
              obtain ⟨v5, e5⟩ : ∃ z, M 645 k = z := ⟨_, rfl⟩
              have b5 : 0 ≤ v5 ∧ v5 ≤ 65535 := by rw [← e5]; exact (by have q := hI_M 645 k (by decide); rw [xri_row rfl rfl] at q; exact q)
              refine jr.iald (i := k) (x := v5) rfl (by decide) rfl (by decide) (by omega) (by omega) e5 ?_
              refine jr.istore_n (ls' := [_, _, _, _]) rfl (by decide) rfl ?_
              refine jr.pick (ls := [_, _, _, _]) [0, 3, 2, 1] rfl rfl ?_
              exact r_change_L74_x q 65600 M v5 k f hI_M hH_M hS_M  (fun a i f640 f641 f642 => rfl) (by omega) (by omega) (by omega) (by omega) (by omega) rfl (by rw [show v5 - M 645 k = 0 from by omega, show M 646 k - 0 = M 646 k from by omega]) ⟨by omega, by omega⟩ (by omega) (by omega) (by omega)
            · refine jr.bipush rfl (by decide) ?_
              exact jr.ireturn rfl rfl rfl (q _ _ hI_M hH_M hS_M  (by omega) (Or.inr ⟨by omega, by first | exact Or.inl ⟨by omega, by omega, rfl⟩ | exact Or.inr (Or.inl ⟨by omega, by omega, by omega, rfl⟩)⟩) (fun a i f640 f641 f642 => rfl))
    · refine jr.if_ne rfl rfl (by omega) (fun h => absurd h (by decide)) (fun _ => ?_)
      refine jr.bipush rfl (by decide) ?_
      exact jr.ireturn rfl rfl rfl (q _ _ hI_M hH_M hS_M  (by omega) (Or.inr ⟨by omega, by first | exact Or.inl ⟨by omega, by omega, rfl⟩ | exact Or.inr (Or.inl ⟨by omega, by omega, by omega, rfl⟩)⟩) (fun a i f640 f641 f642 => rfl))
  · refine jr.if_ne rfl rfl (by omega) (fun h => absurd h (by decide)) (fun _ => ?_)
    refine jr.bipush rfl (by decide) ?_
    exact jr.ireturn rfl rfl rfl (q _ _ hI_M hH_M hS_M  (by omega) (Or.inl ⟨by omega, by omega, rfl⟩) (fun a i f640 f641 f642 => rfl))
end

