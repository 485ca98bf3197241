/-! ===== the reference: contracts, 37.ma ===== -/
theorem r_first_L23 {A : Nat → Option (Nat × (Nat → Int32))} {Q : Option Value → jm → Prop} {T : jm} {M0 : jm} {k0 : Int} (q : ∀ (r : Int) (M' : jm), RI M' → RH M' → RF M' → Kp T M' → (-1) ≤ r ∧ r ≤ 11 → (r = -1 ∨ (r < M' 598 6 ∧ (k0 ≤ 11 → M' 603 r = k0) ∧ (k0 = 12 → M' 603 r = 2 ∨ M' 603 r = 3) ∧ (k0 = 13 → M' 603 r = 7 ∨ M' 603 r = 8 ∨ M' 603 r = 9))) → (∀ (a : Nat) (i : Int), a ≠ 598 → a ≠ 603 → a ≠ 604 → a ≠ 605 → M' a i = M0 a i) → (∀ (i : Int), i ≠ 6 → i ≠ 10 → i ≠ 11 → i ≠ 12 → M' 598 i = M0 598 i) → Q (some (.int (Int32.ofInt r))) M') : ∀ (nM : Nat) (M : jm) (h : Int) (k : Int), RI M → RH M → RF M → Kp T M → (∀ (a : Nat) (i : Int), a ≠ 598 → a ≠ 603 → a ≠ 604 → a ≠ 605 → M a i = M0 a i) → (∀ (i : Int), i ≠ 6 → i ≠ 10 → i ≠ 11 → i ≠ 12 → M 598 i = M0 598 i) → 0 ≤ h ∧ h ≤ 12 → (-2147483648) ≤ k ∧ k ≤ 2147483647 → k = k0 → 12 - h ≤ nM → jr A 4 xm_383 23 [(2, .int (Int32.ofInt (h))), (1, .int (Int32.ofInt (k))), (0, .ref (598))] [] M Q := by
  intro nM
  induction nM using Nat.strongRecOn with
  | ind nM ih =>
    intro M h k hI_M hH_M hS_M ht_M hF_M hG_M h_h h_k hy0 hm
    subst hy0
    refine jr.iload_n rfl rfl ?_
    refine jr.aload_n rfl rfl ?_
    obtain ⟨v1, e1⟩ : ∃ z, M 598 6 = z := ⟨_, rfl⟩
    have b1 : 0 ≤ v1 ∧ v1 ≤ 12 := by rw [← e1]; exact hI_M 598 6 (Nat.le_of_ble_eq_true rfl)
    refine jr.getf (i := 6) (x := v1) (v := .int (Int32.ofInt (v1))) rfl rfl (nlt rfl) rfl (nlt rfl) rfl rfl e1 rfl ?_
    refine jr.icmp_ge rfl rfl (by first | (refine rgb (by assumption) ?_; exact rfl) | omega) (by first | (refine rgb (by assumption) ?_; exact rfl) | omega) (fun h28 => ?_) (fun h28 => ?_)
    · refine jr.iconst rfl ?_
      exact jr.ireturn rfl rfl rfl (q _ _ hI_M hH_M hS_M ht_M (by first | exact rgq rfl | omega) (Or.inl rfl) (fun a i f598 f603 f604 f605 => (hF_M a i f598 f603 f604 f605)) (fun i g6 g10 g11 g12 => (hG_M i g6 g10 g11 g12)))
    · refine jr.aload_n rfl rfl ?_
      refine jr.getf (i := 7) (v := .ref 603) rfl rfl (nlt rfl) rfl (nlt rfl) rfl rfl rfl rfl ?_
      refine jr.iload_n rfl rfl ?_
      obtain ⟨v2, e2⟩ : ∃ z, M 603 h = z := ⟨_, rfl⟩
      have b2 : 0 ≤ v2 ∧ v2 ≤ 11 := by rw [← e2]; exact (by have q := hI_M 603 h (Nat.le_of_ble_eq_true rfl); rw [xri_row rfl rfl] at q; exact q)
      refine jr.iald (i := h) (x := v2) rfl (nlt rfl) rfl (Nat.le_of_ble_eq_true rfl) (by omega) (by omega) e2 ?_
      refine jr.istore_n (ls' := [_, _, _, _]) rfl (nlt rfl) rfl ?_
      refine jr.iload_n rfl rfl ?_
      refine jr.iload_n rfl rfl ?_
      refine jr.icmp_eq rfl rfl (by first | (refine rgb (by assumption) ?_; exact rfl) | omega) (by first | (refine rgb (by assumption) ?_; exact rfl) | omega) (fun h40 => ?_) (fun h40 => ?_)
      · refine jr.iload_n rfl rfl ?_
        exact jr.ireturn rfl rfl rfl (q _ _ hI_M hH_M hS_M ht_M (by omega) (Or.inr ⟨by rw [e1]; omega, by rw [e2]; omega⟩) (fun a i f598 f603 f604 f605 => (hF_M a i f598 f603 f604 f605)) (fun i g6 g10 g11 g12 => (hG_M i g6 g10 g11 g12)))
      · refine jr.iload_n rfl rfl ?_
        refine jr.bipush rfl (jbp _ (nlt rfl)) ?_
        refine jr.icmp_ne rfl rfl (by first | (refine rgb (by assumption) ?_; exact rfl) | omega) (rgl rfl) (fun h46 => ?_) (fun h46 => ?_)
        · refine jr.iload_n rfl rfl ?_
          refine jr.bipush rfl (jbp _ (nlt rfl)) ?_
          refine jr.icmp_ne rfl rfl (by first | (refine rgb (by assumption) ?_; exact rfl) | omega) (rgl rfl) (fun h62 => ?_) (fun h62 => ?_)
          · refine jr.iinc (ls' := [_, _, _, _]) rfl rfl (nlt rfl) rfl ?_
            refine jr.goto rfl rfl ?_
            refine jr.pick (ls := [_, _, _]) [0, 2, 3] rfl rfl ?_
            exact ih (nM - 1) (by omega) M (h + 1) k hI_M hH_M hS_M ht_M (fun a i f598 f603 f604 f605 => (hF_M a i f598 f603 f604 f605)) (fun i g6 g10 g11 g12 => (hG_M i g6 g10 g11 g12)) (by omega) (by omega) (by omega) (by omega)
          · refine jr.iload_n rfl rfl ?_
            refine jr_s rfl rfl (Or.inl rfl) ⟨Nat.le_of_ble_eq_true rfl, Nat.le_of_ble_eq_true rfl⟩ rfl rfl (jc.deep (c_isCarried (by omega) (fun c66 => ?_) (fun c66 => ?_)) (Nat.le_of_ble_eq_true rfl))
            · refine jr.if_eq rfl rfl (by first | exact rgl rfl | omega) (fun h => absurd h (by decide)) (fun _ => ?_)
              refine jr.iload_n rfl rfl ?_
              exact jr.ireturn rfl rfl rfl (q _ _ hI_M hH_M hS_M ht_M (by omega) (Or.inr ⟨by rw [e1]; omega, by rw [e2]; omega⟩) (fun a i f598 f603 f604 f605 => (hF_M a i f598 f603 f604 f605)) (fun i g6 g10 g11 g12 => (hG_M i g6 g10 g11 g12)))
            · refine jr.if_eq rfl rfl (by first | exact rgl rfl | omega) (fun _ => ?_) (fun h => absurd (by decide) h)
              refine jr.iinc (ls' := [_, _, _, _]) rfl rfl (nlt rfl) rfl ?_
              refine jr.goto rfl rfl ?_
              refine jr.pick (ls := [_, _, _]) [0, 2, 3] rfl rfl ?_
              exact ih (nM - 1) (by omega) M (h + 1) k hI_M hH_M hS_M ht_M (fun a i f598 f603 f604 f605 => (hF_M a i f598 f603 f604 f605)) (fun i g6 g10 g11 g12 => (hG_M i g6 g10 g11 g12)) (by omega) (by omega) (by omega) (by omega)
        · refine jr.iload_n rfl rfl ?_
          refine jr.iconst rfl ?_
          refine jr.icmp_eq rfl rfl (by first | (refine rgb (by assumption) ?_; exact rfl) | omega) (rgl rfl) (fun h51 => ?_) (fun h51 => ?_)
          · refine jr.iload_n rfl rfl ?_
            exact jr.ireturn rfl rfl rfl (q _ _ hI_M hH_M hS_M ht_M (by omega) (Or.inr ⟨by rw [e1]; omega, by rw [e2]; omega⟩) (fun a i f598 f603 f604 f605 => (hF_M a i f598 f603 f604 f605)) (fun i g6 g10 g11 g12 => (hG_M i g6 g10 g11 g12)))
          · refine jr.iload_n rfl rfl ?_
            refine jr.iconst rfl ?_
            refine jr.icmp_eq rfl rfl (by first | (refine rgb (by assumption) ?_; exact rfl) | omega) (rgl rfl) (fun h56 => ?_) (fun h56 => ?_)
            · refine jr.iload_n rfl rfl ?_
              exact jr.ireturn rfl rfl rfl (q _ _ hI_M hH_M hS_M ht_M (by omega) (Or.inr ⟨by rw [e1]; omega, by rw [e2]; omega⟩) (fun a i f598 f603 f604 f605 => (hF_M a i f598 f603 f604 f605)) (fun i g6 g10 g11 g12 => (hG_M i g6 g10 g11 g12)))
            · refine jr.iload_n rfl rfl ?_
              refine jr.bipush rfl (jbp _ (nlt rfl)) ?_
              refine jr.icmp_ne rfl rfl (by first | (refine rgb (by assumption) ?_; exact rfl) | omega) (rgl rfl) (fun h62 => ?_) (fun h62 => ?_)
              · refine jr.iinc (ls' := [_, _, _, _]) rfl rfl (nlt rfl) rfl ?_
                refine jr.goto rfl rfl ?_
                refine jr.pick (ls := [_, _, _]) [0, 2, 3] rfl rfl ?_
                exact ih (nM - 1) (by omega) M (h + 1) k hI_M hH_M hS_M ht_M (fun a i f598 f603 f604 f605 => (hF_M a i f598 f603 f604 f605)) (fun i g6 g10 g11 g12 => (hG_M i g6 g10 g11 g12)) (by omega) (by omega) (by omega) (by omega)
              · exact absurd (by omega) h62
theorem r_first {A : Nat → Option (Nat × (Nat → Int32))} {Q : Option Value → jm → Prop} {T : jm} {M : jm} (hI_M : RI M) (hH_M : RH M) (hS_M : RF M) (ht_M : Kp T M) {k : Int} (h_k : (-2147483648) ≤ k ∧ k ≤ 2147483647) (q : ∀ (r : Int) (M' : jm), RI M' → RH M' → RF M' → Kp T M' → (-1) ≤ r ∧ r ≤ 11 → (r = -1 ∨ (r < M' 598 6 ∧ (k ≤ 11 → M' 603 r = k) ∧ (k = 12 → M' 603 r = 2 ∨ M' 603 r = 3) ∧ (k = 13 → M' 603 r = 7 ∨ M' 603 r = 8 ∨ M' 603 r = 9))) → (∀ (a : Nat) (i : Int), a ≠ 598 → a ≠ 603 → a ≠ 604 → a ≠ 605 → M' a i = M a i) → (∀ (i : Int), i ≠ 6 → i ≠ 10 → i ≠ 11 → i ≠ 12 → M' 598 i = M 598 i) → Q (some (.int (Int32.ofInt r))) M') : jc A 5 383 [.ref (598), .int (Int32.ofInt (k))] M Q := by
  refine jc_of (m := xm_383) rfl (Nat.le_of_ble_eq_true rfl) rfl ?_
  refine jr.aload_n rfl rfl ?_
  refine jr.aload_n rfl rfl ?_
  obtain ⟨v1, e1⟩ : ∃ z, M 598 133 = z := ⟨_, rfl⟩
  have b1 : 0 ≤ v1 ∧ v1 ≤ 23 := by rw [← e1]; exact hI_M 598 133 (Nat.le_of_ble_eq_true rfl)
  refine jr.getf (i := 133) (x := v1) (v := .int (Int32.ofInt (v1))) rfl rfl (nlt rfl) rfl (nlt rfl) rfl rfl e1 rfl ?_
  refine jr_v rfl rfl (Or.inl rfl) rfl rfl (nlt rfl) rfl ⟨rfl, Nat.le_of_ble_eq_true rfl, Nat.le_of_ble_eq_true rfl⟩ rfl (jc.deep (c_isThere hI_M (by omega) (fun l5 u5 t5 => ?_) (fun n5 => ?_)) (Nat.le_of_ble_eq_true rfl))
  · refine jr.if_ne rfl rfl (by first | exact rgl rfl | omega) (fun _ => ?_) (fun h => absurd (by decide) h)
    refine jr.aload_n rfl rfl ?_
    refine jr.aload_n rfl rfl ?_
    refine jr.getf (i := 133) (x := v1) (v := .int (Int32.ofInt (v1))) rfl rfl (nlt rfl) rfl (nlt rfl) rfl rfl e1 rfl ?_
    obtain ⟨v3, e3⟩ : ∃ z, M 600 v1 = z := ⟨_, rfl⟩
    have b3 : (-1) ≤ v3 ∧ v3 ≤ 400 := by rw [← e3]; exact (by have q := hI_M 600 v1 (Nat.le_of_ble_eq_true rfl); rw [xri_row rfl rfl] at q; exact q)
    refine jr_v rfl rfl (Or.inl rfl) rfl rfl (nlt rfl) rfl ⟨rfl, Nat.le_of_ble_eq_true rfl, Nat.le_of_ble_eq_true rfl⟩ rfl (jc.deep (r_look hI_M hH_M hS_M ht_M (by omega) (by rw [e3]; omega) (fun M2 hI_M2 hH_M2 hS_M2 ht_M2 w2_0 w2_1 w2_2 => ?_)) (Nat.le_of_ble_eq_true rfl))
    refine jr.iconst rfl ?_
    refine jr.istore_n (ls' := [_, _, _]) rfl (nlt rfl) rfl ?_
    refine jr.pick (ls := [_, _, _]) [0, 2, 1] rfl rfl ?_
    exact r_first_L23 q 12 M2 0 k hI_M2 hH_M2 hS_M2 ht_M2 (fun a i f598 f603 f604 f605 => ((w2_1 a i f598 f603 f604 f605).trans rfl)) (fun i g6 g10 g11 g12 => ((w2_2 i g6 g10 g11 g12).trans rfl)) (by omega) (by omega) (by omega) (by omega)
  · refine jr.if_ne rfl rfl (by first | exact rgl rfl | omega) (fun h => absurd h (by decide)) (fun _ => ?_)
    refine jr.iconst rfl ?_
    exact jr.ireturn rfl rfl rfl (q _ _ hI_M hH_M hS_M ht_M (by first | exact rgq rfl | omega) (Or.inl rfl) (fun a i f598 f603 f604 f605 => rfl) (fun i g6 g10 g11 g12 => rfl))
theorem r_ofNet {A : Nat → Option (Nat × (Nat → Int32))} {Q : Option Value → jm → Prop} {T : jm} {M : jm} (hI_M : RI M) (hH_M : RH M) (hS_M : RF M) (ht_M : Kp T M) {k : Int} (h_k : 0 ≤ k ∧ k ≤ 11) {f : Int} (h_f : 0 ≤ f ∧ f ≤ 15) (q : ∀ (r : Int), 0 ≤ r ∧ r ≤ 10 → (k ≠ 2 → r ≤ 6) → Q (some (.int (Int32.ofInt r))) M) : jc A 1 384 [.int (Int32.ofInt (k)), .int (Int32.ofInt (f))] M Q := by
  refine jc_of (m := xm_384) rfl (Nat.le_of_ble_eq_true rfl) rfl ?_
  refine jr.iload_n rfl rfl ?_
  refine jr.iconst rfl ?_
  refine jr.icmp_ne rfl rfl (by first | (refine rgb (by assumption) ?_; exact rfl) | omega) (rgl rfl) (fun h2 => ?_) (fun h2 => ?_)
  · refine jr.iload_n rfl rfl ?_
    refine jr.if_ne rfl rfl (by first | (refine rgb (by assumption) ?_; exact rfl) | omega) (fun h47 => ?_) (fun h47 => ?_)
    · have sx47 : (1 : Int) ≤ f := by omega
      clear h47
      refine jr.iload_n rfl rfl ?_
      refine jr.iconst rfl ?_
      refine jr.icmp_ne rfl rfl (by first | (refine rgb (by assumption) ?_; exact rfl) | omega) (rgl rfl) (fun h56 => ?_) (fun h56 => ?_)
      · have sx56 : (2 : Int) ≤ f := by omega
        clear h56
        refine jr.iload_n rfl rfl ?_
        refine jr.iconst rfl ?_
        refine jr.icmp_ne rfl rfl (by first | (refine rgb (by assumption) ?_; exact rfl) | omega) (rgl rfl) (fun h65 => ?_) (fun h65 => ?_)
        · have sx65 : (3 : Int) ≤ f := by omega
          clear h65
          refine jr.iload_n rfl rfl ?_
          refine jr.iconst rfl ?_
          refine jr.icmp_ne rfl rfl (by first | (refine rgb (by assumption) ?_; exact rfl) | omega) (rgl rfl) (fun h74 => ?_) (fun h74 => ?_)
          · have sx74 : (4 : Int) ≤ f := by omega
            clear h74
            refine jr.bipush rfl (jbp _ (nlt rfl)) ?_
            exact jr.ireturn rfl rfl rfl (q _ (by first | exact rgq rfl | omega) (by omega))
          · refine jr.iconst rfl ?_
            refine jr.goto rfl rfl ?_
            exact jr.ireturn rfl rfl rfl (q _ (by first | exact rgq rfl | omega) (by omega))
        · refine jr.iconst rfl ?_
          refine jr.goto rfl rfl ?_
          exact jr.ireturn rfl rfl rfl (q _ (by first | exact rgq rfl | omega) (by omega))
      · refine jr.iconst rfl ?_
        refine jr.goto rfl rfl ?_
        exact jr.ireturn rfl rfl rfl (q _ (by first | exact rgq rfl | omega) (by omega))
    · refine jr.iconst rfl ?_
      refine jr.goto rfl rfl ?_
      exact jr.ireturn rfl rfl rfl (q _ (by first | exact rgq rfl | omega) (by omega))
  · refine jr.iload_n rfl rfl ?_
    refine jr.if_ne rfl rfl (by first | (refine rgb (by assumption) ?_; exact rfl) | omega) (fun h6 => ?_) (fun h6 => ?_)
    · have sx6 : (1 : Int) ≤ f := by omega
      clear h6
      refine jr.iload_n rfl rfl ?_
      refine jr.iconst rfl ?_
      refine jr.icmp_ne rfl rfl (by first | (refine rgb (by assumption) ?_; exact rfl) | omega) (rgl rfl) (fun h15 => ?_) (fun h15 => ?_)
      · have sx15 : (2 : Int) ≤ f := by omega
        clear h15
        refine jr.iload_n rfl rfl ?_
        refine jr.iconst rfl ?_
        refine jr.icmp_ne rfl rfl (by first | (refine rgb (by assumption) ?_; exact rfl) | omega) (rgl rfl) (fun h25 => ?_) (fun h25 => ?_)
        · have sx25 : (3 : Int) ≤ f := by omega
          clear h25
          refine jr.iload_n rfl rfl ?_
          refine jr.iconst rfl ?_
          refine jr.icmp_ne rfl rfl (by first | (refine rgb (by assumption) ?_; exact rfl) | omega) (rgl rfl) (fun h35 => ?_) (fun h35 => ?_)
          · have sx35 : (4 : Int) ≤ f := by omega
            clear h35
            refine jr.bipush rfl (jbp _ (nlt rfl)) ?_
            exact jr.ireturn rfl rfl rfl (q _ (by first | exact rgq rfl | omega) (by omega))
          · refine jr.bipush rfl (jbp _ (nlt rfl)) ?_
            refine jr.goto rfl rfl ?_
            exact jr.ireturn rfl rfl rfl (q _ (by first | exact rgq rfl | omega) (by omega))
        · refine jr.bipush rfl (jbp _ (nlt rfl)) ?_
          refine jr.goto rfl rfl ?_
          exact jr.ireturn rfl rfl rfl (q _ (by first | exact rgq rfl | omega) (by omega))
      · refine jr.bipush rfl (jbp _ (nlt rfl)) ?_
        refine jr.goto rfl rfl ?_
        exact jr.ireturn rfl rfl rfl (q _ (by first | exact rgq rfl | omega) (by omega))
    · refine jr.iconst rfl ?_
      refine jr.goto rfl rfl ?_
      exact jr.ireturn rfl rfl rfl (q _ (by first | exact rgq rfl | omega) (by omega))
theorem r_fieldOf {A : Nat → Option (Nat × (Nat → Int32))} {Q : Option Value → jm → Prop} {M : jm} (hI_M : RI M) (hH_M : RH M) (hS_M : RF M) {k : Int} (h_k : 0 ≤ k ∧ k ≤ 13) {f : Int} (h_f : 0 ≤ f ∧ f ≤ 15) (p0 : ((k ≤ 11 → f < fldn k) ∧ (k = 12 → f ≤ 4))) (q : ∀ (r : Int) (M' : jm), RI M' → RH M' → RF M' → (-9223372036854775808) ≤ r ∧ r ≤ 9223372036854775807 → (∀ (a : Nat) (i : Int), a ≠ 598 → a ≠ 603 → a ≠ 604 → a ≠ 605 → M' a i = M a i) → (∀ (i : Int), i ≠ 6 → i ≠ 10 → i ≠ 11 → i ≠ 12 → i ≠ 135 → M' 598 i = M 598 i) → Q (some (.long (Int64.ofInt r))) M') : jc A 7 385 [.ref (598), .int (Int32.ofInt (k)), .int (Int32.ofInt (f))] M Q := by
  have fle := fldn_le k
  refine jc_of (m := xm_385) rfl (Nat.le_of_ble_eq_true rfl) rfl ?_
  refine jr.aload_n rfl rfl ?_
  refine jr.iload_n rfl rfl ?_
  refine jr_v rfl rfl (Or.inl rfl) rfl rfl (nlt rfl) rfl ⟨rfl, Nat.le_of_ble_eq_true rfl, Nat.le_of_ble_eq_true rfl⟩ rfl (jc.deep (r_first hI_M hH_M hS_M (Kp.rfl _) (by omega)  (fun r1 M1 hI_M1 hH_M1 hS_M1 ht_M1 z1 w1_0 w1_1 w1_2 => ?_)) (Nat.le_of_ble_eq_true rfl))
  refine jr.istore_n (ls' := [_, _, _, _]) rfl (nlt rfl) rfl ?_
  refine jr.iload_n rfl rfl ?_
  refine jr.iconst rfl ?_
  refine jr.icmp_ne rfl rfl (by first | (refine rgb (by assumption) ?_; exact rfl) | omega) (rgl rfl) (fun h8 => ?_) (fun h8 => ?_)
  · have sx8 : (0 : Int) ≤ r1 := by omega
    clear h8
    refine jr.aload_n rfl rfl ?_
    refine jr.getf (i := 7) (v := .ref 603) rfl rfl (nlt rfl) rfl (nlt rfl) rfl rfl rfl rfl ?_
    refine jr.iload_n rfl rfl ?_
    obtain ⟨v2, e2⟩ : ∃ z, M1 603 r1 = z := ⟨_, rfl⟩
    have b2 : 0 ≤ v2 ∧ v2 ≤ 11 := by rw [← e2]; exact (by have q := hI_M1 603 r1 (Nat.le_of_ble_eq_true rfl); rw [xri_row rfl rfl] at q; exact q)
    refine jr.iald (i := r1) (x := v2) rfl (nlt rfl) rfl (Nat.le_of_ble_eq_true rfl) (by omega) (by omega) e2 ?_
    refine jr.istore (ls' := [_, _, _, _, _]) rfl (nlt rfl) rfl ?_
    refine jr.iload_n rfl rfl ?_
    refine jr.bipush rfl (jbp _ (nlt rfl)) ?_
    refine jr.icmp_ne rfl rfl (by first | (refine rgb (by assumption) ?_; exact rfl) | omega) (rgl rfl) (fun h29 => ?_) (fun h29 => ?_)
    · refine jr.iload_n rfl rfl ?_
      refine jr.bipush rfl (jbp _ (nlt rfl)) ?_
      refine jr.icmp_ne rfl rfl (by first | (refine rgb (by assumption) ?_; exact rfl) | omega) (rgl rfl) (fun h44 => ?_) (fun h44 => ?_)
      · have sx44 : k ≤ (12 : Int) := by omega
        clear h44
        refine jr.iload_n rfl rfl ?_
        refine jr.istore (ls' := [_, _, _, _, _, _]) rfl (nlt rfl) rfl ?_
        refine jr.aload_n rfl rfl ?_
        refine jr.aload_n rfl rfl ?_
        obtain ⟨v3, e3⟩ : ∃ z, M 598 133 = z := ⟨_, rfl⟩
        have b3 : 0 ≤ v3 ∧ v3 ≤ 23 := by rw [← e3]; exact hI_M 598 133 (Nat.le_of_ble_eq_true rfl)
        have e4 : M1 598 133 = v3 := ((w1_2 133 (zne rfl) (zne rfl) (zne rfl) (zne rfl)).trans e3)
        refine jr.getf (i := 133) (x := v3) (v := .int (Int32.ofInt (v3))) rfl rfl (nlt rfl) rfl (nlt rfl) rfl rfl e4 rfl ?_
        refine jr.iload rfl rfl ?_
        refine jr.aload_n rfl rfl ?_
        refine jr.getf (i := 8) (v := .ref 604) rfl rfl (nlt rfl) rfl (nlt rfl) rfl rfl rfl rfl ?_
        refine jr.iload_n rfl rfl ?_
        obtain ⟨v5, e5⟩ : ∃ z, M1 604 r1 = z := ⟨_, rfl⟩
        have b5 : 0 ≤ v5 ∧ v5 ≤ 400 := by rw [← e5]; exact (by have q := hI_M1 604 r1 (Nat.le_of_ble_eq_true rfl); rw [xri_row rfl rfl] at q; exact q)
        refine jr.iald (i := r1) (x := v5) rfl (nlt rfl) rfl (Nat.le_of_ble_eq_true rfl) (by omega) (by omega) e5 ?_
        refine jr.aload_n rfl rfl ?_
        refine jr.getf (i := 9) (v := .ref 605) rfl rfl (nlt rfl) rfl (nlt rfl) rfl rfl rfl rfl ?_
        refine jr.iload_n rfl rfl ?_
        obtain ⟨v6, e6⟩ : ∃ z, M1 605 r1 = z := ⟨_, rfl⟩
        have b6 : 0 ≤ v6 ∧ v6 ≤ 400 := by rw [← e6]; exact (by have q := hI_M1 605 r1 (Nat.le_of_ble_eq_true rfl); rw [xri_row rfl rfl] at q; exact q)
        refine jr.iald (i := r1) (x := v6) rfl (nlt rfl) rfl (Nat.le_of_ble_eq_true rfl) (by omega) (by omega) e6 ?_
        refine jr.iload rfl rfl ?_
        refine jr_v rfl rfl (Or.inl rfl) rfl rfl (nlt rfl) rfl ⟨rfl, Nat.le_of_ble_eq_true rfl, Nat.le_of_ble_eq_true rfl⟩ rfl (jc.deep (r_valueOf hI_M1 hH_M1 hS_M1 (Kp.rfl _) (by omega) (by omega) (by omega) (by omega) (by omega) (by have q := (hH_M1 r1).1; rw [e5, e2] at q; exact q) (by rw [show v2 = k by omega]; exact p0.1 (by omega)) (fun r7 z7  => ?_)) (Nat.le_of_ble_eq_true rfl))
        exact jr.lreturn rfl rfl (q _ _ hI_M1 hH_M1 hS_M1  (by omega) (fun a i f598 f603 f604 f605 => ((w1_1 a i f598 f603 f604 f605).trans rfl)) (fun i g6 g10 g11 g12 g135 => ((w1_2 i g6 g10 g11 g12).trans rfl)))
      · refine jr.iload rfl rfl ?_
        refine jr.bipush rfl (jbp _ (nlt rfl)) ?_
        refine jr.icmp_ne rfl rfl (by first | (refine rgb (by assumption) ?_; exact rfl) | omega) (rgl rfl) (fun h51 => ?_) (fun h51 => ?_)
        · refine jr.iload rfl rfl ?_
          refine jr.bipush rfl (jbp _ (nlt rfl)) ?_
          refine jr.icmp_ne rfl rfl (by first | (refine rgb (by assumption) ?_; exact rfl) | omega) (rgl rfl) (fun h62 => ?_) (fun h62 => ?_)
          · refine jr.iconst rfl ?_
            refine jr.goto rfl rfl ?_
            refine jr.istore (ls' := [_, _, _, _, _, _]) rfl (nlt rfl) rfl ?_
            refine jr.aload_n rfl rfl ?_
            refine jr.aload_n rfl rfl ?_
            obtain ⟨v8, e8⟩ : ∃ z, M 598 133 = z := ⟨_, rfl⟩
            have b8 : 0 ≤ v8 ∧ v8 ≤ 23 := by rw [← e8]; exact hI_M 598 133 (Nat.le_of_ble_eq_true rfl)
            have e9 : M1 598 133 = v8 := ((w1_2 133 (zne rfl) (zne rfl) (zne rfl) (zne rfl)).trans e8)
            refine jr.getf (i := 133) (x := v8) (v := .int (Int32.ofInt (v8))) rfl rfl (nlt rfl) rfl (nlt rfl) rfl rfl e9 rfl ?_
            refine jr.iload rfl rfl ?_
            refine jr.aload_n rfl rfl ?_
            refine jr.getf (i := 8) (v := .ref 604) rfl rfl (nlt rfl) rfl (nlt rfl) rfl rfl rfl rfl ?_
            refine jr.iload_n rfl rfl ?_
            obtain ⟨v10, e10⟩ : ∃ z, M1 604 r1 = z := ⟨_, rfl⟩
            have b10 : 0 ≤ v10 ∧ v10 ≤ 400 := by rw [← e10]; exact (by have q := hI_M1 604 r1 (Nat.le_of_ble_eq_true rfl); rw [xri_row rfl rfl] at q; exact q)
            refine jr.iald (i := r1) (x := v10) rfl (nlt rfl) rfl (Nat.le_of_ble_eq_true rfl) (by omega) (by omega) e10 ?_
            refine jr.aload_n rfl rfl ?_
            refine jr.getf (i := 9) (v := .ref 605) rfl rfl (nlt rfl) rfl (nlt rfl) rfl rfl rfl rfl ?_
            refine jr.iload_n rfl rfl ?_
            obtain ⟨v11, e11⟩ : ∃ z, M1 605 r1 = z := ⟨_, rfl⟩
            have b11 : 0 ≤ v11 ∧ v11 ≤ 400 := by rw [← e11]; exact (by have q := hI_M1 605 r1 (Nat.le_of_ble_eq_true rfl); rw [xri_row rfl rfl] at q; exact q)
            refine jr.iald (i := r1) (x := v11) rfl (nlt rfl) rfl (Nat.le_of_ble_eq_true rfl) (by omega) (by omega) e11 ?_
            refine jr.iload rfl rfl ?_
            refine jr_v rfl rfl (Or.inl rfl) rfl rfl (nlt rfl) rfl ⟨rfl, Nat.le_of_ble_eq_true rfl, Nat.le_of_ble_eq_true rfl⟩ rfl (jc.deep (r_valueOf hI_M1 hH_M1 hS_M1 (Kp.rfl _) (by omega) (by omega) (by omega) (by omega) (by omega) (by have q := (hH_M1 r1).1; rw [e10, e2] at q; exact q) (by rcases (show v2 = 7 ∨ v2 = 8 ∨ v2 = 9 by omega) with z | z | z <;> (try (exfalso; omega)) <;> rw [z] <;> first | (show 3 < (4 : Int); omega) | (show 3 < (8 : Int); omega)) (fun r12 z12  => ?_)) (Nat.le_of_ble_eq_true rfl))
            exact jr.lreturn rfl rfl (q _ _ hI_M1 hH_M1 hS_M1  (by omega) (fun a i f598 f603 f604 f605 => ((w1_1 a i f598 f603 f604 f605).trans rfl)) (fun i g6 g10 g11 g12 g135 => ((w1_2 i g6 g10 g11 g12).trans rfl)))
          · refine jr.bipush rfl (jbp _ (nlt rfl)) ?_
            refine jr.goto rfl rfl ?_
            refine jr.istore (ls' := [_, _, _, _, _, _]) rfl (nlt rfl) rfl ?_
            refine jr.aload_n rfl rfl ?_
            refine jr.aload_n rfl rfl ?_
            obtain ⟨v13, e13⟩ : ∃ z, M 598 133 = z := ⟨_, rfl⟩
            have b13 : 0 ≤ v13 ∧ v13 ≤ 23 := by rw [← e13]; exact hI_M 598 133 (Nat.le_of_ble_eq_true rfl)
            have e14 : M1 598 133 = v13 := ((w1_2 133 (zne rfl) (zne rfl) (zne rfl) (zne rfl)).trans e13)
            refine jr.getf (i := 133) (x := v13) (v := .int (Int32.ofInt (v13))) rfl rfl (nlt rfl) rfl (nlt rfl) rfl rfl e14 rfl ?_
            refine jr.iload rfl rfl ?_
            refine jr.aload_n rfl rfl ?_
            refine jr.getf (i := 8) (v := .ref 604) rfl rfl (nlt rfl) rfl (nlt rfl) rfl rfl rfl rfl ?_
            refine jr.iload_n rfl rfl ?_
            obtain ⟨v15, e15⟩ : ∃ z, M1 604 r1 = z := ⟨_, rfl⟩
            have b15 : 0 ≤ v15 ∧ v15 ≤ 400 := by rw [← e15]; exact (by have q := hI_M1 604 r1 (Nat.le_of_ble_eq_true rfl); rw [xri_row rfl rfl] at q; exact q)
            refine jr.iald (i := r1) (x := v15) rfl (nlt rfl) rfl (Nat.le_of_ble_eq_true rfl) (by omega) (by omega) e15 ?_
            refine jr.aload_n rfl rfl ?_
            refine jr.getf (i := 9) (v := .ref 605) rfl rfl (nlt rfl) rfl (nlt rfl) rfl rfl rfl rfl ?_
            refine jr.iload_n rfl rfl ?_
            obtain ⟨v16, e16⟩ : ∃ z, M1 605 r1 = z := ⟨_, rfl⟩
            have b16 : 0 ≤ v16 ∧ v16 ≤ 400 := by rw [← e16]; exact (by have q := hI_M1 605 r1 (Nat.le_of_ble_eq_true rfl); rw [xri_row rfl rfl] at q; exact q)
            refine jr.iald (i := r1) (x := v16) rfl (nlt rfl) rfl (Nat.le_of_ble_eq_true rfl) (by omega) (by omega) e16 ?_
            refine jr.iload rfl rfl ?_
            refine jr_v rfl rfl (Or.inl rfl) rfl rfl (nlt rfl) rfl ⟨rfl, Nat.le_of_ble_eq_true rfl, Nat.le_of_ble_eq_true rfl⟩ rfl (jc.deep (r_valueOf hI_M1 hH_M1 hS_M1 (Kp.rfl _) (by omega) (by omega) (by omega) (by omega) (by omega) (by have q := (hH_M1 r1).1; rw [e15, e2] at q; exact q) (by rcases (show v2 = 7 ∨ v2 = 8 ∨ v2 = 9 by omega) with z | z | z <;> (try (exfalso; omega)) <;> rw [z] <;> first | (show 7 < (4 : Int); omega) | (show 7 < (8 : Int); omega)) (fun r17 z17  => ?_)) (Nat.le_of_ble_eq_true rfl))
            exact jr.lreturn rfl rfl (q _ _ hI_M1 hH_M1 hS_M1  (by omega) (fun a i f598 f603 f604 f605 => ((w1_1 a i f598 f603 f604 f605).trans rfl)) (fun i g6 g10 g11 g12 g135 => ((w1_2 i g6 g10 g11 g12).trans rfl)))
        · refine jr.iconst rfl ?_
          refine jr.goto rfl rfl ?_
          refine jr.istore (ls' := [_, _, _, _, _, _]) rfl (nlt rfl) rfl ?_
          refine jr.aload_n rfl rfl ?_
          refine jr.aload_n rfl rfl ?_
          obtain ⟨v18, e18⟩ : ∃ z, M 598 133 = z := ⟨_, rfl⟩
          have b18 : 0 ≤ v18 ∧ v18 ≤ 23 := by rw [← e18]; exact hI_M 598 133 (Nat.le_of_ble_eq_true rfl)
          have e19 : M1 598 133 = v18 := ((w1_2 133 (zne rfl) (zne rfl) (zne rfl) (zne rfl)).trans e18)
          refine jr.getf (i := 133) (x := v18) (v := .int (Int32.ofInt (v18))) rfl rfl (nlt rfl) rfl (nlt rfl) rfl rfl e19 rfl ?_
          refine jr.iload rfl rfl ?_
          refine jr.aload_n rfl rfl ?_
          refine jr.getf (i := 8) (v := .ref 604) rfl rfl (nlt rfl) rfl (nlt rfl) rfl rfl rfl rfl ?_
          refine jr.iload_n rfl rfl ?_
          obtain ⟨v20, e20⟩ : ∃ z, M1 604 r1 = z := ⟨_, rfl⟩
          have b20 : 0 ≤ v20 ∧ v20 ≤ 400 := by rw [← e20]; exact (by have q := hI_M1 604 r1 (Nat.le_of_ble_eq_true rfl); rw [xri_row rfl rfl] at q; exact q)
          refine jr.iald (i := r1) (x := v20) rfl (nlt rfl) rfl (Nat.le_of_ble_eq_true rfl) (by omega) (by omega) e20 ?_
          refine jr.aload_n rfl rfl ?_
          refine jr.getf (i := 9) (v := .ref 605) rfl rfl (nlt rfl) rfl (nlt rfl) rfl rfl rfl rfl ?_
          refine jr.iload_n rfl rfl ?_
          obtain ⟨v21, e21⟩ : ∃ z, M1 605 r1 = z := ⟨_, rfl⟩
          have b21 : 0 ≤ v21 ∧ v21 ≤ 400 := by rw [← e21]; exact (by have q := hI_M1 605 r1 (Nat.le_of_ble_eq_true rfl); rw [xri_row rfl rfl] at q; exact q)
          refine jr.iald (i := r1) (x := v21) rfl (nlt rfl) rfl (Nat.le_of_ble_eq_true rfl) (by omega) (by omega) e21 ?_
          refine jr.iload rfl rfl ?_
          refine jr_v rfl rfl (Or.inl rfl) rfl rfl (nlt rfl) rfl ⟨rfl, Nat.le_of_ble_eq_true rfl, Nat.le_of_ble_eq_true rfl⟩ rfl (jc.deep (r_valueOf hI_M1 hH_M1 hS_M1 (Kp.rfl _) (by omega) (by omega) (by omega) (by omega) (by omega) (by have q := (hH_M1 r1).1; rw [e20, e2] at q; exact q) (by rcases (show v2 = 7 ∨ v2 = 8 ∨ v2 = 9 by omega) with z | z | z <;> (try (exfalso; omega)) <;> rw [z] <;> first | (show 2 < (4 : Int); omega) | (show 2 < (8 : Int); omega)) (fun r22 z22  => ?_)) (Nat.le_of_ble_eq_true rfl))
          exact jr.lreturn rfl rfl (q _ _ hI_M1 hH_M1 hS_M1  (by omega) (fun a i f598 f603 f604 f605 => ((w1_1 a i f598 f603 f604 f605).trans rfl)) (fun i g6 g10 g11 g12 g135 => ((w1_2 i g6 g10 g11 g12).trans rfl)))
    · refine jr.iload rfl rfl ?_
      refine jr.iload_n rfl rfl ?_
      refine jr_s rfl rfl (Or.inl rfl) ⟨Nat.le_of_ble_eq_true rfl, Nat.le_of_ble_eq_true rfl⟩ rfl rfl (jc.deep (r_ofNet hI_M1 hH_M1 hS_M1 (Kp.rfl _) (by omega) (by omega)  (fun r23 z23 w23_0 => ?_)) (Nat.le_of_ble_eq_true rfl))
      refine jr.goto rfl rfl ?_
      refine jr.istore (ls' := [_, _, _, _, _, _]) rfl (nlt rfl) rfl ?_
      refine jr.aload_n rfl rfl ?_
      refine jr.aload_n rfl rfl ?_
      obtain ⟨v24, e24⟩ : ∃ z, M 598 133 = z := ⟨_, rfl⟩
      have b24 : 0 ≤ v24 ∧ v24 ≤ 23 := by rw [← e24]; exact hI_M 598 133 (Nat.le_of_ble_eq_true rfl)
      have e25 : M1 598 133 = v24 := ((w1_2 133 (zne rfl) (zne rfl) (zne rfl) (zne rfl)).trans e24)
      refine jr.getf (i := 133) (x := v24) (v := .int (Int32.ofInt (v24))) rfl rfl (nlt rfl) rfl (nlt rfl) rfl rfl e25 rfl ?_
      refine jr.iload rfl rfl ?_
      refine jr.aload_n rfl rfl ?_
      refine jr.getf (i := 8) (v := .ref 604) rfl rfl (nlt rfl) rfl (nlt rfl) rfl rfl rfl rfl ?_
      refine jr.iload_n rfl rfl ?_
      obtain ⟨v26, e26⟩ : ∃ z, M1 604 r1 = z := ⟨_, rfl⟩
      have b26 : 0 ≤ v26 ∧ v26 ≤ 400 := by rw [← e26]; exact (by have q := hI_M1 604 r1 (Nat.le_of_ble_eq_true rfl); rw [xri_row rfl rfl] at q; exact q)
      refine jr.iald (i := r1) (x := v26) rfl (nlt rfl) rfl (Nat.le_of_ble_eq_true rfl) (by omega) (by omega) e26 ?_
      refine jr.aload_n rfl rfl ?_
      refine jr.getf (i := 9) (v := .ref 605) rfl rfl (nlt rfl) rfl (nlt rfl) rfl rfl rfl rfl ?_
      refine jr.iload_n rfl rfl ?_
      obtain ⟨v27, e27⟩ : ∃ z, M1 605 r1 = z := ⟨_, rfl⟩
      have b27 : 0 ≤ v27 ∧ v27 ≤ 400 := by rw [← e27]; exact (by have q := hI_M1 605 r1 (Nat.le_of_ble_eq_true rfl); rw [xri_row rfl rfl] at q; exact q)
      refine jr.iald (i := r1) (x := v27) rfl (nlt rfl) rfl (Nat.le_of_ble_eq_true rfl) (by omega) (by omega) e27 ?_
      refine jr.iload rfl rfl ?_
      refine jr_v rfl rfl (Or.inl rfl) rfl rfl (nlt rfl) rfl ⟨rfl, Nat.le_of_ble_eq_true rfl, Nat.le_of_ble_eq_true rfl⟩ rfl (jc.deep (r_valueOf hI_M1 hH_M1 hS_M1 (Kp.rfl _) (by omega) (by omega) (by omega) (by omega) (by omega) (by have q := (hH_M1 r1).1; rw [e26, e2] at q; exact q) (by rcases (show v2 = 2 ∨ v2 = 3 by omega) with z | z <;> rw [z] <;> first | (show r23 < (11 : Int); omega) | (show r23 < (7 : Int); omega)) (fun r28 z28  => ?_)) (Nat.le_of_ble_eq_true rfl))
      exact jr.lreturn rfl rfl (q _ _ hI_M1 hH_M1 hS_M1  (by omega) (fun a i f598 f603 f604 f605 => ((w1_1 a i f598 f603 f604 f605).trans rfl)) (fun i g6 g10 g11 g12 g135 => ((w1_2 i g6 g10 g11 g12).trans rfl)))
  · refine jr.aload_n rfl rfl ?_
    refine jr.iconst rfl ?_
    refine jr.putf (i := 135) (x := 1) rfl rfl (nlt rfl) rfl (nlt rfl) rfl rfl rfl rfl rfl ?_
    refine jr.lconst (x := 0) rfl (by decide) ?_
    exact jr.lreturn rfl rfl (q _ _ (RI.u hI_M1 (a := 598) (i := 135) (show (0 : Int) ≤ _ ∧ _ ≤ (8 : Int) from by omega)) (RH.o hH_M1 (by decide) (by decide) (by decide)) (RF.o hS_M1 (by decide) (by decide))  (by omega) (fun a i f598 f603 f604 f605 => ((ju_c _ _ f598).trans ((w1_1 a i f598 f603 f604 f605).trans rfl))) (fun i g6 g10 g11 g12 g135 => ((ju_i _ _ g135).trans ((w1_2 i g6 g10 g11 g12).trans rfl))))
theorem r_flowOfPacket {A : Nat → Option (Nat × (Nat → Int32))} {Q : Option Value → jm → Prop} {T : jm} {M : jm} (hI_M : RI M) (hH_M : RH M) (hS_M : RF M) (ht_M : Kp T M) (q : ∀ (r : Int) (M' : jm), RI M' → RH M' → RF M' → Kp T M' → (-1) ≤ r ∧ r ≤ 23 → (∀ (a : Nat) (i : Int), a ≠ 598 → a ≠ 603 → a ≠ 604 → a ≠ 605 → M' a i = M a i) → (∀ (i : Int), i ≠ 6 → i ≠ 10 → i ≠ 11 → i ≠ 12 → i ≠ 59 → i ≠ 60 → i ≠ 61 → i ≠ 62 → i ≠ 63 → i ≠ 64 → i ≠ 65 → i ≠ 66 → M' 598 i = M 598 i) → Q (some (.int (Int32.ofInt r))) M') : jc A 8 386 [.ref (598)] M Q := by
  refine jc_of (m := xm_386) rfl (Nat.le_of_ble_eq_true rfl) rfl ?_
  refine jr.aload_n rfl rfl ?_
  refine jr.aload_n rfl rfl ?_
  obtain ⟨v1, e1⟩ : ∃ z, M 598 133 = z := ⟨_, rfl⟩
  have b1 : 0 ≤ v1 ∧ v1 ≤ 23 := by rw [← e1]; exact hI_M 598 133 (Nat.le_of_ble_eq_true rfl)
  refine jr.getf (i := 133) (x := v1) (v := .int (Int32.ofInt (v1))) rfl rfl (nlt rfl) rfl (nlt rfl) rfl rfl e1 rfl ?_
  refine jr_v rfl rfl (Or.inl rfl) rfl rfl (nlt rfl) rfl ⟨rfl, Nat.le_of_ble_eq_true rfl, Nat.le_of_ble_eq_true rfl⟩ rfl (jc.deep (c_isThere hI_M (by omega) (fun l5 u5 t5 => ?_) (fun n5 => ?_)) (Nat.le_of_ble_eq_true rfl))
  · refine jr.if_eq rfl rfl (by first | exact rgl rfl | omega) (fun h => absurd h (by decide)) (fun _ => ?_)
    refine jr.aload_n rfl rfl ?_
    refine jr.aload_n rfl rfl ?_
    refine jr.getf (i := 133) (x := v1) (v := .int (Int32.ofInt (v1))) rfl rfl (nlt rfl) rfl (nlt rfl) rfl rfl e1 rfl ?_
    obtain ⟨v3, e3⟩ : ∃ z, M 600 v1 = z := ⟨_, rfl⟩
    have b3 : (-1) ≤ v3 ∧ v3 ≤ 400 := by rw [← e3]; exact (by have q := hI_M 600 v1 (Nat.le_of_ble_eq_true rfl); rw [xri_row rfl rfl] at q; exact q)
    refine jr_v rfl rfl (Or.inl rfl) rfl rfl (nlt rfl) rfl ⟨rfl, Nat.le_of_ble_eq_true rfl, Nat.le_of_ble_eq_true rfl⟩ rfl (jc.deep (r_hasEnds hI_M hH_M hS_M ht_M (by omega) (by rw [e3]; omega) (fun r2 M2 hI_M2 hH_M2 hS_M2 ht_M2 z2 w2_0 w2_1 w2_2 => ?_)) (Nat.le_of_ble_eq_true rfl))
    refine jr.if_ne rfl rfl (by first | (refine rgb (by assumption) ?_; exact rfl) | omega) (fun h19 => ?_) (fun h19 => ?_)
    · have sx19 : (1 : Int) ≤ r2 := by omega
      clear h19
      refine jr.aload_n rfl rfl ?_
      refine jr.aload_n rfl rfl ?_
      have e4 : M2 598 133 = v1 := ((w2_2 133 (zne rfl) (zne rfl) (zne rfl) (zne rfl) (zne rfl) (zne rfl) (zne rfl) (zne rfl) (zne rfl) (zne rfl) (zne rfl)).trans e1)
      refine jr.getf (i := 133) (x := v1) (v := .int (Int32.ofInt (v1))) rfl rfl (nlt rfl) rfl (nlt rfl) rfl rfl e4 rfl ?_
      refine jr_v rfl rfl (Or.inl rfl) rfl rfl (nlt rfl) rfl ⟨rfl, Nat.le_of_ble_eq_true rfl, Nat.le_of_ble_eq_true rfl⟩ rfl (jc.deep (r_isRelated hI_M2 hH_M2 hS_M2 ht_M2 (by omega) (w2_0.resolve_left (by omega)) (fun r5 M5 hI_M5 hH_M5 hS_M5 ht_M5 z5 w5_0 w5_1 w5_2 => ?_)) (Nat.le_of_ble_eq_true rfl))
      refine jr.istore_n (ls' := [_, _]) rfl (nlt rfl) rfl ?_
      refine jr.aload_n rfl rfl ?_
      refine jr_v rfl rfl (Or.inl rfl) rfl rfl (nlt rfl) rfl ⟨rfl, Nat.le_of_ble_eq_true rfl, Nat.le_of_ble_eq_true rfl⟩ rfl (jc.deep (r_flowByEnds hI_M5 hH_M5 hS_M5 ht_M5   (fun r6 M6 hI_M6 hH_M6 hS_M6 ht_M6 z6 w6_0 w6_1 w6_2 => ?_)) (Nat.le_of_ble_eq_true rfl))
      exact jr.ireturn rfl rfl rfl (q _ _ hI_M6 hH_M6 hS_M6 ht_M6 (by omega) (fun a i f598 f603 f604 f605 => ((w6_1 a i f598).trans ((w5_1 a i f598).trans ((w2_1 a i f598 f603 f604 f605).trans rfl)))) (fun i g6 g10 g11 g12 g59 g60 g61 g62 g63 g64 g65 g66 => ((w6_2 i g66).trans ((w5_2 i g59 g60 g61 g62 g63 g64 g65).trans ((w2_2 i g6 g10 g11 g12 g59 g60 g61 g62 g63 g64 g65).trans rfl)))))
    · refine jr.iconst rfl ?_
      exact jr.ireturn rfl rfl rfl (q _ _ hI_M2 hH_M2 hS_M2 ht_M2 (by first | exact rgq rfl | omega) (fun a i f598 f603 f604 f605 => ((w2_1 a i f598 f603 f604 f605).trans rfl)) (fun i g6 g10 g11 g12 g59 g60 g61 g62 g63 g64 g65 g66 => ((w2_2 i g6 g10 g11 g12 g59 g60 g61 g62 g63 g64 g65).trans rfl)))
  · refine jr.if_eq rfl rfl (by first | exact rgl rfl | omega) (fun _ => ?_) (fun h => absurd (by decide) h)
    refine jr.iconst rfl ?_
    exact jr.ireturn rfl rfl rfl (q _ _ hI_M hH_M hS_M ht_M (by first | exact rgq rfl | omega) (fun a i f598 f603 f604 f605 => rfl) (fun i g6 g10 g11 g12 g59 g60 g61 g62 g63 g64 g65 g66 => rfl))
theorem r_rowFor {A : Nat → Option (Nat × (Nat → Int32))} {Q : Option Value → jm → Prop} {M : jm} (hI_M : RI M) (hH_M : RH M) (hS_M : RF M) {k : Int} (h_k : (-9223372036854775808) ≤ k ∧ k ≤ 9223372036854775807) (q : ∀ (r : Int) (M' : jm), RI M' → RH M' → RF M' → (-1) ≤ r ∧ r ≤ 7 → (M' 598 135 ≠ 0 ∨ (0 ≤ r ∧ r ≤ 7 ∧ r = k ∧ M' 598 135 = M 598 135)) → (∀ (a : Nat) (i : Int), a ≠ 598 → M' a i = M a i) → (∀ (i : Int), i ≠ 135 → M' 598 i = M 598 i) → Q (some (.int (Int32.ofInt r))) M') : jc A 2 387 [.ref (598), .long (Int64.ofInt (k))] M Q := by
  refine jc_of (m := xm_387) rfl (Nat.le_of_ble_eq_true rfl) rfl ?_
  refine jr.lload_n rfl rfl ?_
  refine jr.lconst (x := 0) rfl (by decide) ?_
  refine jr.ldc2 (x := 7) rfl rfl (by decide) ?_
  refine jr_s rfl rfl (Or.inl rfl) ⟨Nat.le_of_ble_eq_true rfl, Nat.le_of_ble_eq_true rfl⟩ rfl rfl (jc.deep (c_within (by omega) (by omega) (by omega) (fun l5 u5 => ?_) (fun n5 => ?_)) (Nat.le_of_ble_eq_true rfl))
  · refine jr.if_ne rfl rfl (by first | exact rgl rfl | omega) (fun _ => ?_) (fun h => absurd (by decide) h)
    refine jr.aload_n rfl rfl ?_
    refine jr.getf (i := 117) (v := .ref 674) rfl rfl (nlt rfl) rfl (nlt rfl) rfl rfl rfl rfl ?_
    refine jr.lload_n rfl rfl ?_
    refine jr.l2i rfl ?_
    obtain ⟨v1, e1⟩ : ∃ z, M 674 k = z := ⟨_, rfl⟩
    have b1 : (-1) ≤ v1 ∧ v1 ≤ 6 := by rw [← e1]; exact (by have q := hI_M 674 k (Nat.le_of_ble_eq_true rfl); rw [xri_row rfl rfl] at q; exact q)
    refine jr.iald (i := k) (x := v1) rfl (nlt rfl) rfl (Nat.le_of_ble_eq_true rfl) (by omega) (by omega) e1 ?_
    refine jr.iconst rfl ?_
    refine jr.icmp_ne rfl rfl (by first | (refine rgb (by assumption) ?_; exact rfl) | omega) (rgl rfl) (fun h26 => ?_) (fun h26 => ?_)
    · have sx26 : (0 : Int) ≤ v1 := by omega
      clear h26
      refine jr.lload_n rfl rfl ?_
      refine jr.l2i rfl ?_
      obtain ⟨v2, e2⟩ : ∃ z, M 598 135 = z := ⟨_, rfl⟩
      have b2 : 0 ≤ v2 ∧ v2 ≤ 8 := by rw [← e2]; exact hI_M 598 135 (Nat.le_of_ble_eq_true rfl)
      exact jr.ireturn rfl rfl rfl (q _ _ hI_M hH_M hS_M  (by omega) (by omega) (fun a i f598 => rfl) (fun i g135 => rfl))
    · refine jr.aload_n rfl rfl ?_
      refine jr.iconst rfl ?_
      refine jr.putf (i := 135) (x := 1) rfl rfl (nlt rfl) rfl (nlt rfl) rfl rfl rfl rfl rfl ?_
      refine jr.iconst rfl ?_
      have y4 : (ju M 598 135 1) 598 135 = 1 := (ju_same _ _ _ _)
      obtain ⟨v5, e5⟩ : ∃ z, M 598 135 = z := ⟨_, rfl⟩
      have b5 : 0 ≤ v5 ∧ v5 ≤ 8 := by rw [← e5]; exact hI_M 598 135 (Nat.le_of_ble_eq_true rfl)
      exact jr.ireturn rfl rfl rfl (q _ _ (RI.u hI_M (a := 598) (i := 135) (show (0 : Int) ≤ _ ∧ _ ≤ (8 : Int) from by omega)) (RH.o hH_M (by decide) (by decide) (by decide)) (RF.o hS_M (by decide) (by decide))  (by omega) (by omega) (fun a i f598 => ((ju_c _ _ f598).trans rfl)) (fun i g135 => ((ju_i _ _ g135).trans rfl)))
  · refine jr.if_ne rfl rfl (by first | exact rgl rfl | omega) (fun h => absurd h (by decide)) (fun _ => ?_)
    refine jr.aload_n rfl rfl ?_
    refine jr.iconst rfl ?_
    refine jr.putf (i := 135) (x := 2) rfl rfl (nlt rfl) rfl (nlt rfl) rfl rfl rfl rfl rfl ?_
    refine jr.iconst rfl ?_
    have y6 : (ju M 598 135 2) 598 135 = 2 := (ju_same _ _ _ _)
    obtain ⟨v7, e7⟩ : ∃ z, M 598 135 = z := ⟨_, rfl⟩
    have b7 : 0 ≤ v7 ∧ v7 ≤ 8 := by rw [← e7]; exact hI_M 598 135 (Nat.le_of_ble_eq_true rfl)
    exact jr.ireturn rfl rfl rfl (q _ _ (RI.u hI_M (a := 598) (i := 135) (show (0 : Int) ≤ _ ∧ _ ≤ (8 : Int) from by omega)) (RH.o hH_M (by decide) (by decide) (by decide)) (RF.o hS_M (by decide) (by decide))  (by omega) (by omega) (fun a i f598 => ((ju_c _ _ f598).trans rfl)) (fun i g135 => ((ju_i _ _ g135).trans rfl)))
theorem r_itemOf {A : Nat → Option (Nat × (Nat → Int32))} {Q : Option Value → jm → Prop} {M : jm} (hI_M : RI M) (hH_M : RH M) (hS_M : RF M) {k : Int} (h_k : (-9223372036854775808) ≤ k ∧ k ≤ 9223372036854775807) {i : Int} (h_i : (-9223372036854775808) ≤ i ∧ i ≤ 9223372036854775807) (q : ∀ (r : Int) (M' : jm), RI M' → RH M' → RF M' → (-9223372036854775808) ≤ r ∧ r ≤ 9223372036854775807 → (M' 598 135 ≠ 0 ∨ (0 ≤ k ∧ k ≤ 7 ∧ 0 ≤ i ∧ i ≤ 39)) → (∀ (a : Nat) (i : Int), a ≠ 598 → M' a i = M a i) → (∀ (i : Int), i ≠ 135 → M' 598 i = M 598 i) → Q (some (.long (Int64.ofInt r))) M') : jc A 3 388 [.ref (598), .long (Int64.ofInt (k)), .long (Int64.ofInt (i))] M Q := by
  refine jc_of (m := xm_388) rfl (Nat.le_of_ble_eq_true rfl) rfl ?_
  refine jr.aload_n rfl rfl ?_
  refine jr.lload_n rfl rfl ?_
  refine jr_v rfl rfl (Or.inl rfl) rfl rfl (nlt rfl) rfl ⟨rfl, Nat.le_of_ble_eq_true rfl, Nat.le_of_ble_eq_true rfl⟩ rfl (jc.deep (r_rowFor hI_M hH_M hS_M  (by omega)  (fun r1 M1 hI_M1 hH_M1 hS_M1  z1 w1_0 w1_1 w1_2 => ?_)) (Nat.le_of_ble_eq_true rfl))
  refine jr.istore (ls' := [_, _, _, _]) rfl (nlt rfl) rfl ?_
  refine jr.aload_n rfl rfl ?_
  obtain ⟨v2, e2⟩ : ∃ z, M1 598 135 = z := ⟨_, rfl⟩
  have b2 : 0 ≤ v2 ∧ v2 ≤ 8 := by rw [← e2]; exact hI_M1 598 135 (Nat.le_of_ble_eq_true rfl)
  refine jr.getf (i := 135) (x := v2) (v := .int (Int32.ofInt (v2))) rfl rfl (nlt rfl) rfl (nlt rfl) rfl rfl e2 rfl ?_
  refine jr.if_eq rfl rfl (by first | (refine rgb (by assumption) ?_; exact rfl) | omega) (fun h11 => ?_) (fun h11 => ?_)
  · refine jr.aload_n rfl rfl ?_
    refine jr.aload_n rfl rfl ?_
    refine jr.getf (i := 117) (v := .ref 674) rfl rfl (nlt rfl) rfl (nlt rfl) rfl rfl rfl rfl ?_
    refine jr.iload rfl rfl ?_
    obtain ⟨v3, e3⟩ : ∃ z, M 674 r1 = z := ⟨_, rfl⟩
    have b3 : (-1) ≤ v3 ∧ v3 ≤ 6 := by rw [← e3]; exact (by have q := hI_M 674 r1 (Nat.le_of_ble_eq_true rfl); rw [xri_row rfl rfl] at q; exact q)
    have e4 : M1 674 r1 = v3 := ((w1_1 674 r1 (nne rfl)).trans e3)
    refine jr.iald (i := r1) (x := v3) rfl (nlt rfl) rfl (Nat.le_of_ble_eq_true rfl) (by omega) (by omega) e4 ?_
    refine jr.iconst rfl ?_
    refine jr.icmp_le rfl rfl (by first | (refine rgb (by assumption) ?_; exact rfl) | omega) (rgl rfl) (fun h25 => ?_) (fun h25 => ?_)
    · refine jr.lload_n rfl rfl ?_
      refine jr.lconst (x := 0) rfl (by decide) ?_
      refine jr.aload_n rfl rfl ?_
      refine jr.getf (i := 118) (v := .ref 675) rfl rfl (nlt rfl) rfl (nlt rfl) rfl rfl rfl rfl ?_
      refine jr.iload rfl rfl ?_
      obtain ⟨v5, e5⟩ : ∃ z, M 675 r1 = z := ⟨_, rfl⟩
      have b5 : 0 ≤ v5 ∧ v5 ≤ 40 := by rw [← e5]; exact (by have q := hI_M 675 r1 (Nat.le_of_ble_eq_true rfl); rw [xri_row rfl rfl] at q; exact q)
      have e6 : M1 675 r1 = v5 := ((w1_1 675 r1 (nne rfl)).trans e5)
      refine jr.iald (i := r1) (x := v5) rfl (nlt rfl) rfl (Nat.le_of_ble_eq_true rfl) (by omega) (by omega) e6 ?_
      refine jr.iconst rfl ?_
      refine jr.isub rfl ?_
      refine jr.i2l rfl (by omega) ?_
      refine jr_s rfl rfl (Or.inl rfl) ⟨Nat.le_of_ble_eq_true rfl, Nat.le_of_ble_eq_true rfl⟩ rfl rfl (jc.deep (c_within (by omega) (by omega) (by omega) (fun l44 u44 => ?_) (fun n44 => ?_)) (Nat.le_of_ble_eq_true rfl))
      · refine jr.if_eq rfl rfl (by first | exact rgl rfl | omega) (fun h => absurd h (by decide)) (fun _ => ?_)
        refine jr.iconst rfl ?_
        refine jr.goto rfl rfl ?_
        refine jr.putf (i := 135) (x := 0) rfl rfl (nlt rfl) rfl (nlt rfl) rfl rfl rfl rfl rfl ?_
        refine jr.aload_n rfl rfl ?_
        refine jr.getf (i := 135) (x := 0) (v := .int (Int32.ofInt (0))) rfl rfl (nlt rfl) rfl (nlt rfl) rfl rfl (ju_same _ _ _ _) rfl ?_
        refine jr.if_eq rfl rfl (by first | (refine rgb (by assumption) ?_; exact rfl) | omega) (fun h62 => ?_) (fun h62 => ?_)
        · refine jr.aload_n rfl rfl ?_
          refine jr.getf (i := 119) (v := .ref 676) rfl rfl (nlt rfl) rfl (nlt rfl) rfl rfl rfl rfl ?_
          refine jr.bipush rfl (jbp _ (nlt rfl)) ?_
          refine jr.iload rfl rfl ?_
          refine jr.imul rfl ?_
          refine jr.lload_n rfl rfl ?_
          refine jr.l2i rfl ?_
          refine jr.iadd rfl ?_
          obtain ⟨v7, e7⟩ : ∃ z, M 676 ((40 * r1) + i) = z := ⟨_, rfl⟩
          have b7 : (-9223372036854775808) ≤ v7 ∧ v7 ≤ 9223372036854775807 := by rw [← e7]; exact (by have q := hI_M 676 ((40 * r1) + i) (by decide); rw [xri_row rfl rfl] at q; exact q)
          have e8 : M1 676 ((40 * r1) + i) = v7 := ((w1_1 676 ((40 * r1) + i) (by decide)).trans e7)
          refine jr.lald (i := ((40 * r1) + i)) (x := v7) rfl (nlt rfl) rfl (Nat.le_of_ble_eq_true rfl) (by omega) (by omega) ((ju_c _ _ (by decide)).trans e8) ?_
          have y9 : (ju M1 598 135 0) 598 135 = 0 := (ju_same _ _ _ _)
          obtain ⟨v10, e10⟩ : ∃ z, M 598 135 = z := ⟨_, rfl⟩
          have b10 : 0 ≤ v10 ∧ v10 ≤ 8 := by rw [← e10]; exact hI_M 598 135 (Nat.le_of_ble_eq_true rfl)
          exact jr.lreturn rfl rfl (q _ _ (RI.u hI_M1 (a := 598) (i := 135) (show (0 : Int) ≤ _ ∧ _ ≤ (8 : Int) from by omega)) (RH.o hH_M1 (by decide) (by decide) (by decide)) (RF.o hS_M1 (by decide) (by decide))  (by omega) (by omega) (fun a i f598 => ((ju_c _ _ f598).trans ((w1_1 a i f598).trans rfl))) (fun i g135 => ((ju_i _ _ g135).trans ((w1_2 i g135).trans rfl))))
        · refine jr.lconst (x := 0) rfl (by decide) ?_
          refine jr.goto rfl rfl ?_
          have y11 : (ju M1 598 135 0) 598 135 = 0 := (ju_same _ _ _ _)
          obtain ⟨v12, e12⟩ : ∃ z, M 598 135 = z := ⟨_, rfl⟩
          have b12 : 0 ≤ v12 ∧ v12 ≤ 8 := by rw [← e12]; exact hI_M 598 135 (Nat.le_of_ble_eq_true rfl)
          exact jr.lreturn rfl rfl (q _ _ (RI.u hI_M1 (a := 598) (i := 135) (show (0 : Int) ≤ _ ∧ _ ≤ (8 : Int) from by omega)) (RH.o hH_M1 (by decide) (by decide) (by decide)) (RF.o hS_M1 (by decide) (by decide))  (by omega) (by omega) (fun a i f598 => ((ju_c _ _ f598).trans ((w1_1 a i f598).trans rfl))) (fun i g135 => ((ju_i _ _ g135).trans ((w1_2 i g135).trans rfl))))
      · refine jr.if_eq rfl rfl (by first | exact rgl rfl | omega) (fun _ => ?_) (fun h => absurd (by decide) h)
        refine jr.iconst rfl ?_
        refine jr.putf (i := 135) (x := 2) rfl rfl (nlt rfl) rfl (nlt rfl) rfl rfl rfl rfl rfl ?_
        refine jr.aload_n rfl rfl ?_
        refine jr.getf (i := 135) (x := 2) (v := .int (Int32.ofInt (2))) rfl rfl (nlt rfl) rfl (nlt rfl) rfl rfl (ju_same _ _ _ _) rfl ?_
        refine jr.if_eq rfl rfl (by first | (refine rgb (by assumption) ?_; exact rfl) | omega) (fun h62 => ?_) (fun h62 => ?_)
        · refine jr.aload_n rfl rfl ?_
          refine jr.getf (i := 119) (v := .ref 676) rfl rfl (nlt rfl) rfl (nlt rfl) rfl rfl rfl rfl ?_
          refine jr.bipush rfl (jbp _ (nlt rfl)) ?_
          refine jr.iload rfl rfl ?_
          refine jr.imul rfl ?_
          refine jr.lload_n rfl rfl ?_
          refine jr.l2i rfl ?_
          refine jr.iw (j_w i) (j_w_eq _) ?_
          have b13 : -2147483648 ≤ j_w i ∧ j_w i ≤ 2147483647 := jb_any _
          generalize j_w i = v13 at b13 ⊢
          refine jr.iadd rfl ?_
          refine jr.iw (j_w ((40 * r1) + v13)) (j_w_eq _) ?_
          have b14 : -2147483648 ≤ j_w ((40 * r1) + v13) ∧ j_w ((40 * r1) + v13) ≤ 2147483647 := jb_any _
          generalize j_w ((40 * r1) + v13) = v14 at b14 ⊢
          obtain ⟨v15, e15⟩ : ∃ z, M 676 v14 = z := ⟨_, rfl⟩
          have b15 : (-9223372036854775808) ≤ v15 ∧ v15 ≤ 9223372036854775807 := by rw [← e15]; exact (by have q := hI_M 676 v14 (Nat.le_of_ble_eq_true rfl); rw [xri_row rfl rfl] at q; exact q)
          have e16 : M1 676 v14 = v15 := ((w1_1 676 v14 (nne rfl)).trans e15)
          refine jr.lald (i := v14) (x := v15) rfl (nlt rfl) rfl (Nat.le_of_ble_eq_true rfl) (by omega) (by omega) ((ju_c _ _ (by decide)).trans e16) ?_
          have y17 : (ju M1 598 135 2) 598 135 = 2 := (ju_same _ _ _ _)
          obtain ⟨v18, e18⟩ : ∃ z, M 598 135 = z := ⟨_, rfl⟩
          have b18 : 0 ≤ v18 ∧ v18 ≤ 8 := by rw [← e18]; exact hI_M 598 135 (Nat.le_of_ble_eq_true rfl)
          exact jr.lreturn rfl rfl (q _ _ (RI.u hI_M1 (a := 598) (i := 135) (show (0 : Int) ≤ _ ∧ _ ≤ (8 : Int) from by omega)) (RH.o hH_M1 (by decide) (by decide) (by decide)) (RF.o hS_M1 (by decide) (by decide))  (by omega) (by omega) (fun a i f598 => ((ju_c _ _ f598).trans ((w1_1 a i f598).trans rfl))) (fun i g135 => ((ju_i _ _ g135).trans ((w1_2 i g135).trans rfl))))
        · refine jr.lconst (x := 0) rfl (by decide) ?_
          refine jr.goto rfl rfl ?_
          have y19 : (ju M1 598 135 2) 598 135 = 2 := (ju_same _ _ _ _)
          obtain ⟨v20, e20⟩ : ∃ z, M 598 135 = z := ⟨_, rfl⟩
          have b20 : 0 ≤ v20 ∧ v20 ≤ 8 := by rw [← e20]; exact hI_M 598 135 (Nat.le_of_ble_eq_true rfl)
          exact jr.lreturn rfl rfl (q _ _ (RI.u hI_M1 (a := 598) (i := 135) (show (0 : Int) ≤ _ ∧ _ ≤ (8 : Int) from by omega)) (RH.o hH_M1 (by decide) (by decide) (by decide)) (RF.o hS_M1 (by decide) (by decide))  (by omega) (by omega) (fun a i f598 => ((ju_c _ _ f598).trans ((w1_1 a i f598).trans rfl))) (fun i g135 => ((ju_i _ _ g135).trans ((w1_2 i g135).trans rfl))))
    · refine jr.iconst rfl ?_
      refine jr.goto rfl rfl ?_
      refine jr.putf (i := 135) (x := 4) rfl rfl (nlt rfl) rfl (nlt rfl) rfl rfl rfl rfl rfl ?_
      refine jr.aload_n rfl rfl ?_
      refine jr.getf (i := 135) (x := 4) (v := .int (Int32.ofInt (4))) rfl rfl (nlt rfl) rfl (nlt rfl) rfl rfl (ju_same _ _ _ _) rfl ?_
      refine jr.if_eq rfl rfl (by first | (refine rgb (by assumption) ?_; exact rfl) | omega) (fun h62 => ?_) (fun h62 => ?_)
      · refine jr.aload_n rfl rfl ?_
        refine jr.getf (i := 119) (v := .ref 676) rfl rfl (nlt rfl) rfl (nlt rfl) rfl rfl rfl rfl ?_
        refine jr.bipush rfl (jbp _ (nlt rfl)) ?_
        refine jr.iload rfl rfl ?_
        refine jr.imul rfl ?_
        refine jr.lload_n rfl rfl ?_
        refine jr.l2i rfl ?_
        refine jr.iw (j_w i) (j_w_eq _) ?_
        have b21 : -2147483648 ≤ j_w i ∧ j_w i ≤ 2147483647 := jb_any _
        generalize j_w i = v21 at b21 ⊢
        refine jr.iadd rfl ?_
        refine jr.iw (j_w ((40 * r1) + v21)) (j_w_eq _) ?_
        have b22 : -2147483648 ≤ j_w ((40 * r1) + v21) ∧ j_w ((40 * r1) + v21) ≤ 2147483647 := jb_any _
        generalize j_w ((40 * r1) + v21) = v22 at b22 ⊢
        obtain ⟨v23, e23⟩ : ∃ z, M 676 v22 = z := ⟨_, rfl⟩
        have b23 : (-9223372036854775808) ≤ v23 ∧ v23 ≤ 9223372036854775807 := by rw [← e23]; exact (by have q := hI_M 676 v22 (Nat.le_of_ble_eq_true rfl); rw [xri_row rfl rfl] at q; exact q)
        have e24 : M1 676 v22 = v23 := ((w1_1 676 v22 (nne rfl)).trans e23)
        refine jr.lald (i := v22) (x := v23) rfl (nlt rfl) rfl (Nat.le_of_ble_eq_true rfl) (by omega) (by omega) ((ju_c _ _ (by decide)).trans e24) ?_
        have y25 : (ju M1 598 135 4) 598 135 = 4 := (ju_same _ _ _ _)
        obtain ⟨v26, e26⟩ : ∃ z, M 598 135 = z := ⟨_, rfl⟩
        have b26 : 0 ≤ v26 ∧ v26 ≤ 8 := by rw [← e26]; exact hI_M 598 135 (Nat.le_of_ble_eq_true rfl)
        exact jr.lreturn rfl rfl (q _ _ (RI.u hI_M1 (a := 598) (i := 135) (show (0 : Int) ≤ _ ∧ _ ≤ (8 : Int) from by omega)) (RH.o hH_M1 (by decide) (by decide) (by decide)) (RF.o hS_M1 (by decide) (by decide))  (by omega) (by omega) (fun a i f598 => ((ju_c _ _ f598).trans ((w1_1 a i f598).trans rfl))) (fun i g135 => ((ju_i _ _ g135).trans ((w1_2 i g135).trans rfl))))
      · refine jr.lconst (x := 0) rfl (by decide) ?_
        refine jr.goto rfl rfl ?_
        have y27 : (ju M1 598 135 4) 598 135 = 4 := (ju_same _ _ _ _)
        obtain ⟨v28, e28⟩ : ∃ z, M 598 135 = z := ⟨_, rfl⟩
        have b28 : 0 ≤ v28 ∧ v28 ≤ 8 := by rw [← e28]; exact hI_M 598 135 (Nat.le_of_ble_eq_true rfl)
        exact jr.lreturn rfl rfl (q _ _ (RI.u hI_M1 (a := 598) (i := 135) (show (0 : Int) ≤ _ ∧ _ ≤ (8 : Int) from by omega)) (RH.o hH_M1 (by decide) (by decide) (by decide)) (RF.o hS_M1 (by decide) (by decide))  (by omega) (by omega) (fun a i f598 => ((ju_c _ _ f598).trans ((w1_1 a i f598).trans rfl))) (fun i g135 => ((ju_i _ _ g135).trans ((w1_2 i g135).trans rfl))))
  · have sx11 : (1 : Int) ≤ v2 := by omega
    clear h11
    refine jr.lconst (x := 0) rfl (by decide) ?_
    obtain ⟨v30, e30⟩ : ∃ z, M 598 135 = z := ⟨_, rfl⟩
    have b30 : 0 ≤ v30 ∧ v30 ≤ 8 := by rw [← e30]; exact hI_M 598 135 (Nat.le_of_ble_eq_true rfl)
    exact jr.lreturn rfl rfl (q _ _ hI_M1 hH_M1 hS_M1  (by omega) (by omega) (fun a i f598 => ((w1_1 a i f598).trans rfl)) (fun i g135 => ((w1_2 i g135).trans rfl)))
theorem r_headOf {A : Nat → Option (Nat × (Nat → Int32))} {Q : Option Value → jm → Prop} {M : jm} (hI_M : RI M) (hH_M : RH M) (hS_M : RF M) {k : Int} (h_k : (-9223372036854775808) ≤ k ∧ k ≤ 9223372036854775807) {i : Int} (h_i : (-9223372036854775808) ≤ i ∧ i ≤ 9223372036854775807) {f : Int} (h_f : (-9223372036854775808) ≤ f ∧ f ≤ 9223372036854775807) (q : ∀ (r : Int) (M' : jm), RI M' → RH M' → RF M' → (-9223372036854775808) ≤ r ∧ r ≤ 9223372036854775807 → (∀ (a : Nat) (i : Int), a ≠ 598 → M' a i = M a i) → (∀ (i : Int), i ≠ 135 → M' 598 i = M 598 i) → Q (some (.long (Int64.ofInt r))) M') : jc A 3 389 [.ref (598), .long (Int64.ofInt (k)), .long (Int64.ofInt (i)), .long (Int64.ofInt (f))] M Q := by
  refine jc_of (m := xm_389) rfl (Nat.le_of_ble_eq_true rfl) rfl ?_
  refine jr.aload_n rfl rfl ?_
  refine jr.lload_n rfl rfl ?_
  refine jr_v rfl rfl (Or.inl rfl) rfl rfl (nlt rfl) rfl ⟨rfl, Nat.le_of_ble_eq_true rfl, Nat.le_of_ble_eq_true rfl⟩ rfl (jc.deep (r_rowFor hI_M hH_M hS_M  (by omega)  (fun r1 M1 hI_M1 hH_M1 hS_M1  z1 w1_0 w1_1 w1_2 => ?_)) (Nat.le_of_ble_eq_true rfl))
  refine jr.istore (ls' := [_, _, _, _, _]) rfl (nlt rfl) rfl ?_
  refine jr.aload_n rfl rfl ?_
  obtain ⟨v2, e2⟩ : ∃ z, M1 598 135 = z := ⟨_, rfl⟩
  have b2 : 0 ≤ v2 ∧ v2 ≤ 8 := by rw [← e2]; exact hI_M1 598 135 (Nat.le_of_ble_eq_true rfl)
  refine jr.getf (i := 135) (x := v2) (v := .int (Int32.ofInt (v2))) rfl rfl (nlt rfl) rfl (nlt rfl) rfl rfl e2 rfl ?_
  refine jr.if_eq rfl rfl (by first | (refine rgb (by assumption) ?_; exact rfl) | omega) (fun h11 => ?_) (fun h11 => ?_)
  · refine jr.aload_n rfl rfl ?_
    refine jr.aload_n rfl rfl ?_
    refine jr.getf (i := 117) (v := .ref 674) rfl rfl (nlt rfl) rfl (nlt rfl) rfl rfl rfl rfl ?_
    refine jr.iload rfl rfl ?_
    obtain ⟨v3, e3⟩ : ∃ z, M 674 r1 = z := ⟨_, rfl⟩
    have b3 : (-1) ≤ v3 ∧ v3 ≤ 6 := by rw [← e3]; exact (by have q := hI_M 674 r1 (Nat.le_of_ble_eq_true rfl); rw [xri_row rfl rfl] at q; exact q)
    have e4 : M1 674 r1 = v3 := ((w1_1 674 r1 (nne rfl)).trans e3)
    refine jr.iald (i := r1) (x := v3) rfl (nlt rfl) rfl (Nat.le_of_ble_eq_true rfl) (by omega) (by omega) e4 ?_
    refine jr.iconst rfl ?_
    refine jr.icmp_ge rfl rfl (by first | (refine rgb (by assumption) ?_; exact rfl) | omega) (rgl rfl) (fun h25 => ?_) (fun h25 => ?_)
    · refine jr.lload_n rfl rfl ?_
      refine jr.lconst (x := 0) rfl (by decide) ?_
      refine jr.aload_n rfl rfl ?_
      refine jr.getf (i := 118) (v := .ref 675) rfl rfl (nlt rfl) rfl (nlt rfl) rfl rfl rfl rfl ?_
      refine jr.iload rfl rfl ?_
      obtain ⟨v5, e5⟩ : ∃ z, M 675 r1 = z := ⟨_, rfl⟩
      have b5 : 0 ≤ v5 ∧ v5 ≤ 40 := by rw [← e5]; exact (by have q := hI_M 675 r1 (Nat.le_of_ble_eq_true rfl); rw [xri_row rfl rfl] at q; exact q)
      have e6 : M1 675 r1 = v5 := ((w1_1 675 r1 (nne rfl)).trans e5)
      refine jr.iald (i := r1) (x := v5) rfl (nlt rfl) rfl (Nat.le_of_ble_eq_true rfl) (by omega) (by omega) e6 ?_
      refine jr.iconst rfl ?_
      refine jr.isub rfl ?_
      refine jr.i2l rfl (by omega) ?_
      refine jr_s rfl rfl (Or.inl rfl) ⟨Nat.le_of_ble_eq_true rfl, Nat.le_of_ble_eq_true rfl⟩ rfl rfl (jc.deep (c_within (by omega) (by omega) (by omega) (fun l44 u44 => ?_) (fun n44 => ?_)) (Nat.le_of_ble_eq_true rfl))
      · refine jr.if_eq rfl rfl (by first | exact rgl rfl | omega) (fun h => absurd h (by decide)) (fun _ => ?_)
        refine jr.iconst rfl ?_
        refine jr.goto rfl rfl ?_
        refine jr.putf (i := 135) (x := 0) rfl rfl (nlt rfl) rfl (nlt rfl) rfl rfl rfl rfl rfl ?_
        refine jr.aload_n rfl rfl ?_
        refine jr.getf (i := 135) (x := 0) (v := .int (Int32.ofInt (0))) rfl rfl (nlt rfl) rfl (nlt rfl) rfl rfl (ju_same _ _ _ _) rfl ?_
        refine jr.if_eq rfl rfl (by first | (refine rgb (by assumption) ?_; exact rfl) | omega) (fun h62 => ?_) (fun h62 => ?_)
        · refine jr.bipush rfl (jbp _ (nlt rfl)) ?_
          refine jr.iload rfl rfl ?_
          refine jr.imul rfl ?_
          refine jr.lload_n rfl rfl ?_
          refine jr.l2i rfl ?_
          refine jr.iadd rfl ?_
          refine jr.istore (ls' := [_, _, _, _, _, _]) rfl (nlt rfl) rfl ?_
          refine jr.aload_n rfl rfl ?_
          refine jr.getf (i := 120) (v := .ref 677) rfl rfl (nlt rfl) rfl (nlt rfl) rfl rfl rfl rfl ?_
          refine jr.iload rfl rfl ?_
          obtain ⟨v7, e7⟩ : ∃ z, M 677 ((40 * r1) + i) = z := ⟨_, rfl⟩
          have b7 : (-1) ≤ v7 ∧ v7 ≤ 11 := by rw [← e7]; exact (by have q := hI_M 677 ((40 * r1) + i) (by decide); rw [xri_row rfl rfl] at q; exact q)
          have e8 : M1 677 ((40 * r1) + i) = v7 := ((w1_1 677 ((40 * r1) + i) (by decide)).trans e7)
          refine jr.iald (i := ((40 * r1) + i)) (x := v7) rfl (nlt rfl) rfl (Nat.le_of_ble_eq_true rfl) (by omega) (by omega) ((ju_c _ _ (by decide)).trans e8) ?_
          refine jr.iconst rfl ?_
          refine jr.icmp_ne rfl rfl (by first | (refine rgb (by assumption) ?_; exact rfl) | omega) (rgl rfl) (fun h85 => ?_) (fun h85 => ?_)
          · have sx85 : (0 : Int) ≤ v7 := by omega
            clear h85
            refine jr.lload rfl rfl ?_
            refine jr.lconst (x := 0) rfl (by decide) ?_
            refine jr.aload_n rfl rfl ?_
            refine jr.getf (i := 120) (v := .ref 677) rfl rfl (nlt rfl) rfl (nlt rfl) rfl rfl rfl rfl ?_
            refine jr.iload rfl rfl ?_
            refine jr.iald (i := ((40 * r1) + i)) (x := v7) rfl (nlt rfl) rfl (Nat.le_of_ble_eq_true rfl) (by omega) (by omega) ((ju_c _ _ (by decide)).trans e8) ?_
            refine jr_s rfl rfl (Or.inl rfl) ⟨Nat.le_of_ble_eq_true rfl, Nat.le_of_ble_eq_true rfl⟩ rfl rfl (jc.deep (r_fields (RI.u hI_M1 (a := 598) (i := 135) (show (0 : Int) ≤ _ ∧ _ ≤ (8 : Int) from by omega)) (RH.o hH_M1 (by decide) (by decide) (by decide)) (RF.o hS_M1 (by decide) (by decide)) (Kp.rfl _) (by omega)  (fun r9 z9 w9_0 => ?_)) (Nat.le_of_ble_eq_true rfl))
            refine jr.iconst rfl ?_
            refine jr.isub rfl ?_
            refine jr.i2l rfl (by omega) ?_
            refine jr_s rfl rfl (Or.inl rfl) ⟨Nat.le_of_ble_eq_true rfl, Nat.le_of_ble_eq_true rfl⟩ rfl rfl (jc.deep (c_within (by omega) (by omega) (by omega) (fun l111 u111 => ?_) (fun n111 => ?_)) (Nat.le_of_ble_eq_true rfl))
            · refine jr.if_ne rfl rfl (by first | exact rgl rfl | omega) (fun _ => ?_) (fun h => absurd (by decide) h)
              refine jr.aload_n rfl rfl ?_
              refine jr.getf (i := 121) (v := .ref 678) rfl rfl (nlt rfl) rfl (nlt rfl) rfl rfl rfl rfl ?_
              refine jr.bipush rfl (jbp _ (nlt rfl)) ?_
              refine jr.iload rfl rfl ?_
              refine jr.imul rfl ?_
              refine jr.lload rfl rfl ?_
              refine jr.l2i rfl ?_
              refine jr.iadd rfl ?_
              obtain ⟨v10, e10⟩ : ∃ z, M 678 ((11 * ((40 * r1) + i)) + f) = z := ⟨_, rfl⟩
              have b10 : (-9223372036854775808) ≤ v10 ∧ v10 ≤ 9223372036854775807 := by rw [← e10]; exact (by have q := hI_M 678 ((11 * ((40 * r1) + i)) + f) (by decide); rw [xri_row rfl rfl] at q; exact q)
              have e11 : M1 678 ((11 * ((40 * r1) + i)) + f) = v10 := ((w1_1 678 ((11 * ((40 * r1) + i)) + f) (by decide)).trans e10)
              refine jr.lald (i := ((11 * ((40 * r1) + i)) + f)) (x := v10) rfl (nlt rfl) rfl (Nat.le_of_ble_eq_true rfl) (by omega) (by omega) ((ju_c _ _ (by decide)).trans e11) ?_
              exact jr.lreturn rfl rfl (q _ _ (RI.u hI_M1 (a := 598) (i := 135) (show (0 : Int) ≤ _ ∧ _ ≤ (8 : Int) from by omega)) (RH.o hH_M1 (by decide) (by decide) (by decide)) (RF.o hS_M1 (by decide) (by decide))  (by omega) (fun a i f598 => ((ju_c _ _ f598).trans ((w1_1 a i f598).trans rfl))) (fun i g135 => ((ju_i _ _ g135).trans ((w1_2 i g135).trans rfl))))
            · refine jr.if_ne rfl rfl (by first | exact rgl rfl | omega) (fun h => absurd h (by decide)) (fun _ => ?_)
              refine jr.aload_n rfl rfl ?_
              refine jr.iconst rfl ?_
              refine jr.putf (i := 135) (x := 2) rfl rfl (nlt rfl) rfl (nlt rfl) rfl rfl rfl rfl rfl ?_
              refine jr.lconst (x := 0) rfl (by decide) ?_
              exact jr.lreturn rfl rfl (q _ _ (RI.u (RI.u hI_M1 (a := 598) (i := 135) (show (0 : Int) ≤ _ ∧ _ ≤ (8 : Int) from by omega)) (a := 598) (i := 135) (show (0 : Int) ≤ _ ∧ _ ≤ (8 : Int) from by omega)) (RH.o (RH.o hH_M1 (by decide) (by decide) (by decide)) (by decide) (by decide) (by decide)) (RF.o (RF.o hS_M1 (by decide) (by decide)) (by decide) (by decide))  (by omega) (fun a i f598 => ((ju_c _ _ f598).trans ((ju_c _ _ f598).trans ((w1_1 a i f598).trans rfl)))) (fun i g135 => ((ju_i _ _ g135).trans ((ju_i _ _ g135).trans ((w1_2 i g135).trans rfl)))))
          · refine jr.aload_n rfl rfl ?_
            refine jr.iconst rfl ?_
            refine jr.putf (i := 135) (x := 1) rfl rfl (nlt rfl) rfl (nlt rfl) rfl rfl rfl rfl rfl ?_
            refine jr.lconst (x := 0) rfl (by decide) ?_
            exact jr.lreturn rfl rfl (q _ _ (RI.u (RI.u hI_M1 (a := 598) (i := 135) (show (0 : Int) ≤ _ ∧ _ ≤ (8 : Int) from by omega)) (a := 598) (i := 135) (show (0 : Int) ≤ _ ∧ _ ≤ (8 : Int) from by omega)) (RH.o (RH.o hH_M1 (by decide) (by decide) (by decide)) (by decide) (by decide) (by decide)) (RF.o (RF.o hS_M1 (by decide) (by decide)) (by decide) (by decide))  (by omega) (fun a i f598 => ((ju_c _ _ f598).trans ((ju_c _ _ f598).trans ((w1_1 a i f598).trans rfl)))) (fun i g135 => ((ju_i _ _ g135).trans ((ju_i _ _ g135).trans ((w1_2 i g135).trans rfl)))))
        · refine jr.lconst (x := 0) rfl (by decide) ?_
          exact jr.lreturn rfl rfl (q _ _ (RI.u hI_M1 (a := 598) (i := 135) (show (0 : Int) ≤ _ ∧ _ ≤ (8 : Int) from by omega)) (RH.o hH_M1 (by decide) (by decide) (by decide)) (RF.o hS_M1 (by decide) (by decide))  (by omega) (fun a i f598 => ((ju_c _ _ f598).trans ((w1_1 a i f598).trans rfl))) (fun i g135 => ((ju_i _ _ g135).trans ((w1_2 i g135).trans rfl))))
      · refine jr.if_eq rfl rfl (by first | exact rgl rfl | omega) (fun _ => ?_) (fun h => absurd (by decide) h)
        refine jr.iconst rfl ?_
        refine jr.putf (i := 135) (x := 2) rfl rfl (nlt rfl) rfl (nlt rfl) rfl rfl rfl rfl rfl ?_
        refine jr.aload_n rfl rfl ?_
        refine jr.getf (i := 135) (x := 2) (v := .int (Int32.ofInt (2))) rfl rfl (nlt rfl) rfl (nlt rfl) rfl rfl (ju_same _ _ _ _) rfl ?_
        refine jr.if_eq rfl rfl (by first | (refine rgb (by assumption) ?_; exact rfl) | omega) (fun h62 => ?_) (fun h62 => ?_)
        · refine jr.bipush rfl (jbp _ (nlt rfl)) ?_
          refine jr.iload rfl rfl ?_
          refine jr.imul rfl ?_
          refine jr.lload_n rfl rfl ?_
          refine jr.l2i rfl ?_
          refine jr.iw (j_w i) (j_w_eq _) ?_
          have b12 : -2147483648 ≤ j_w i ∧ j_w i ≤ 2147483647 := jb_any _
          generalize j_w i = v12 at b12 ⊢
          refine jr.iadd rfl ?_
          refine jr.iw (j_w ((40 * r1) + v12)) (j_w_eq _) ?_
          have b13 : -2147483648 ≤ j_w ((40 * r1) + v12) ∧ j_w ((40 * r1) + v12) ≤ 2147483647 := jb_any _
          generalize j_w ((40 * r1) + v12) = v13 at b13 ⊢
          refine jr.istore (ls' := [_, _, _, _, _, _]) rfl (nlt rfl) rfl ?_
          refine jr.aload_n rfl rfl ?_
          refine jr.getf (i := 120) (v := .ref 677) rfl rfl (nlt rfl) rfl (nlt rfl) rfl rfl rfl rfl ?_
          refine jr.iload rfl rfl ?_
          obtain ⟨v14, e14⟩ : ∃ z, M 677 v13 = z := ⟨_, rfl⟩
          have b14 : (-1) ≤ v14 ∧ v14 ≤ 11 := by rw [← e14]; exact (by have q := hI_M 677 v13 (Nat.le_of_ble_eq_true rfl); rw [xri_row rfl rfl] at q; exact q)
          have e15 : M1 677 v13 = v14 := ((w1_1 677 v13 (nne rfl)).trans e14)
          refine jr.iald (i := v13) (x := v14) rfl (nlt rfl) rfl (Nat.le_of_ble_eq_true rfl) (by omega) (by omega) ((ju_c _ _ (by decide)).trans e15) ?_
          refine jr.iconst rfl ?_
          refine jr.icmp_ne rfl rfl (by first | (refine rgb (by assumption) ?_; exact rfl) | omega) (rgl rfl) (fun h85 => ?_) (fun h85 => ?_)
          · have sx85 : (0 : Int) ≤ v14 := by omega
            clear h85
            refine jr.lload rfl rfl ?_
            refine jr.lconst (x := 0) rfl (by decide) ?_
            refine jr.aload_n rfl rfl ?_
            refine jr.getf (i := 120) (v := .ref 677) rfl rfl (nlt rfl) rfl (nlt rfl) rfl rfl rfl rfl ?_
            refine jr.iload rfl rfl ?_
            refine jr.iald (i := v13) (x := v14) rfl (nlt rfl) rfl (Nat.le_of_ble_eq_true rfl) (by omega) (by omega) ((ju_c _ _ (by decide)).trans e15) ?_
            refine jr_s rfl rfl (Or.inl rfl) ⟨Nat.le_of_ble_eq_true rfl, Nat.le_of_ble_eq_true rfl⟩ rfl rfl (jc.deep (r_fields (RI.u hI_M1 (a := 598) (i := 135) (show (0 : Int) ≤ _ ∧ _ ≤ (8 : Int) from by omega)) (RH.o hH_M1 (by decide) (by decide) (by decide)) (RF.o hS_M1 (by decide) (by decide)) (Kp.rfl _) (by omega)  (fun r16 z16 w16_0 => ?_)) (Nat.le_of_ble_eq_true rfl))
            refine jr.iconst rfl ?_
            refine jr.isub rfl ?_
            refine jr.i2l rfl (by omega) ?_
            refine jr_s rfl rfl (Or.inl rfl) ⟨Nat.le_of_ble_eq_true rfl, Nat.le_of_ble_eq_true rfl⟩ rfl rfl (jc.deep (c_within (by omega) (by omega) (by omega) (fun l111 u111 => ?_) (fun n111 => ?_)) (Nat.le_of_ble_eq_true rfl))
            · refine jr.if_ne rfl rfl (by first | exact rgl rfl | omega) (fun _ => ?_) (fun h => absurd (by decide) h)
              refine jr.aload_n rfl rfl ?_
              refine jr.getf (i := 121) (v := .ref 678) rfl rfl (nlt rfl) rfl (nlt rfl) rfl rfl rfl rfl ?_
              refine jr.bipush rfl (jbp _ (nlt rfl)) ?_
              refine jr.iload rfl rfl ?_
              refine jr.imul rfl ?_
              refine jr.iw (j_w (11 * v13)) (j_w_eq _) ?_
              have b17 : -2147483648 ≤ j_w (11 * v13) ∧ j_w (11 * v13) ≤ 2147483647 := jb_any _
              generalize j_w (11 * v13) = v17 at b17 ⊢
              refine jr.lload rfl rfl ?_
              refine jr.l2i rfl ?_
              refine jr.iadd rfl ?_
              refine jr.iw (j_w (v17 + f)) (j_w_eq _) ?_
              have b18 : -2147483648 ≤ j_w (v17 + f) ∧ j_w (v17 + f) ≤ 2147483647 := jb_any _
              generalize j_w (v17 + f) = v18 at b18 ⊢
              obtain ⟨v19, e19⟩ : ∃ z, M 678 v18 = z := ⟨_, rfl⟩
              have b19 : (-9223372036854775808) ≤ v19 ∧ v19 ≤ 9223372036854775807 := by rw [← e19]; exact (by have q := hI_M 678 v18 (Nat.le_of_ble_eq_true rfl); rw [xri_row rfl rfl] at q; exact q)
              have e20 : M1 678 v18 = v19 := ((w1_1 678 v18 (nne rfl)).trans e19)
              refine jr.lald (i := v18) (x := v19) rfl (nlt rfl) rfl (Nat.le_of_ble_eq_true rfl) (by omega) (by omega) ((ju_c _ _ (by decide)).trans e20) ?_
              exact jr.lreturn rfl rfl (q _ _ (RI.u hI_M1 (a := 598) (i := 135) (show (0 : Int) ≤ _ ∧ _ ≤ (8 : Int) from by omega)) (RH.o hH_M1 (by decide) (by decide) (by decide)) (RF.o hS_M1 (by decide) (by decide))  (by omega) (fun a i f598 => ((ju_c _ _ f598).trans ((w1_1 a i f598).trans rfl))) (fun i g135 => ((ju_i _ _ g135).trans ((w1_2 i g135).trans rfl))))
            · refine jr.if_ne rfl rfl (by first | exact rgl rfl | omega) (fun h => absurd h (by decide)) (fun _ => ?_)
              refine jr.aload_n rfl rfl ?_
              refine jr.iconst rfl ?_
              refine jr.putf (i := 135) (x := 2) rfl rfl (nlt rfl) rfl (nlt rfl) rfl rfl rfl rfl rfl ?_
              refine jr.lconst (x := 0) rfl (by decide) ?_
              exact jr.lreturn rfl rfl (q _ _ (RI.u (RI.u hI_M1 (a := 598) (i := 135) (show (0 : Int) ≤ _ ∧ _ ≤ (8 : Int) from by omega)) (a := 598) (i := 135) (show (0 : Int) ≤ _ ∧ _ ≤ (8 : Int) from by omega)) (RH.o (RH.o hH_M1 (by decide) (by decide) (by decide)) (by decide) (by decide) (by decide)) (RF.o (RF.o hS_M1 (by decide) (by decide)) (by decide) (by decide))  (by omega) (fun a i f598 => ((ju_c _ _ f598).trans ((ju_c _ _ f598).trans ((w1_1 a i f598).trans rfl)))) (fun i g135 => ((ju_i _ _ g135).trans ((ju_i _ _ g135).trans ((w1_2 i g135).trans rfl)))))
          · refine jr.aload_n rfl rfl ?_
            refine jr.iconst rfl ?_
            refine jr.putf (i := 135) (x := 1) rfl rfl (nlt rfl) rfl (nlt rfl) rfl rfl rfl rfl rfl ?_
            refine jr.lconst (x := 0) rfl (by decide) ?_
            exact jr.lreturn rfl rfl (q _ _ (RI.u (RI.u hI_M1 (a := 598) (i := 135) (show (0 : Int) ≤ _ ∧ _ ≤ (8 : Int) from by omega)) (a := 598) (i := 135) (show (0 : Int) ≤ _ ∧ _ ≤ (8 : Int) from by omega)) (RH.o (RH.o hH_M1 (by decide) (by decide) (by decide)) (by decide) (by decide) (by decide)) (RF.o (RF.o hS_M1 (by decide) (by decide)) (by decide) (by decide))  (by omega) (fun a i f598 => ((ju_c _ _ f598).trans ((ju_c _ _ f598).trans ((w1_1 a i f598).trans rfl)))) (fun i g135 => ((ju_i _ _ g135).trans ((ju_i _ _ g135).trans ((w1_2 i g135).trans rfl)))))
        · refine jr.lconst (x := 0) rfl (by decide) ?_
          exact jr.lreturn rfl rfl (q _ _ (RI.u hI_M1 (a := 598) (i := 135) (show (0 : Int) ≤ _ ∧ _ ≤ (8 : Int) from by omega)) (RH.o hH_M1 (by decide) (by decide) (by decide)) (RF.o hS_M1 (by decide) (by decide))  (by omega) (fun a i f598 => ((ju_c _ _ f598).trans ((w1_1 a i f598).trans rfl))) (fun i g135 => ((ju_i _ _ g135).trans ((w1_2 i g135).trans rfl))))
    · refine jr.iconst rfl ?_
      refine jr.goto rfl rfl ?_
      refine jr.putf (i := 135) (x := 4) rfl rfl (nlt rfl) rfl (nlt rfl) rfl rfl rfl rfl rfl ?_
      refine jr.aload_n rfl rfl ?_
      refine jr.getf (i := 135) (x := 4) (v := .int (Int32.ofInt (4))) rfl rfl (nlt rfl) rfl (nlt rfl) rfl rfl (ju_same _ _ _ _) rfl ?_
      refine jr.if_eq rfl rfl (by first | (refine rgb (by assumption) ?_; exact rfl) | omega) (fun h62 => ?_) (fun h62 => ?_)
      · refine jr.bipush rfl (jbp _ (nlt rfl)) ?_
        refine jr.iload rfl rfl ?_
        refine jr.imul rfl ?_
        refine jr.lload_n rfl rfl ?_
        refine jr.l2i rfl ?_
        refine jr.iw (j_w i) (j_w_eq _) ?_
        have b21 : -2147483648 ≤ j_w i ∧ j_w i ≤ 2147483647 := jb_any _
        generalize j_w i = v21 at b21 ⊢
        refine jr.iadd rfl ?_
        refine jr.iw (j_w ((40 * r1) + v21)) (j_w_eq _) ?_
        have b22 : -2147483648 ≤ j_w ((40 * r1) + v21) ∧ j_w ((40 * r1) + v21) ≤ 2147483647 := jb_any _
        generalize j_w ((40 * r1) + v21) = v22 at b22 ⊢
        refine jr.istore (ls' := [_, _, _, _, _, _]) rfl (nlt rfl) rfl ?_
        refine jr.aload_n rfl rfl ?_
        refine jr.getf (i := 120) (v := .ref 677) rfl rfl (nlt rfl) rfl (nlt rfl) rfl rfl rfl rfl ?_
        refine jr.iload rfl rfl ?_
        obtain ⟨v23, e23⟩ : ∃ z, M 677 v22 = z := ⟨_, rfl⟩
        have b23 : (-1) ≤ v23 ∧ v23 ≤ 11 := by rw [← e23]; exact (by have q := hI_M 677 v22 (Nat.le_of_ble_eq_true rfl); rw [xri_row rfl rfl] at q; exact q)
        have e24 : M1 677 v22 = v23 := ((w1_1 677 v22 (nne rfl)).trans e23)
        refine jr.iald (i := v22) (x := v23) rfl (nlt rfl) rfl (Nat.le_of_ble_eq_true rfl) (by omega) (by omega) ((ju_c _ _ (by decide)).trans e24) ?_
        refine jr.iconst rfl ?_
        refine jr.icmp_ne rfl rfl (by first | (refine rgb (by assumption) ?_; exact rfl) | omega) (rgl rfl) (fun h85 => ?_) (fun h85 => ?_)
        · have sx85 : (0 : Int) ≤ v23 := by omega
          clear h85
          refine jr.lload rfl rfl ?_
          refine jr.lconst (x := 0) rfl (by decide) ?_
          refine jr.aload_n rfl rfl ?_
          refine jr.getf (i := 120) (v := .ref 677) rfl rfl (nlt rfl) rfl (nlt rfl) rfl rfl rfl rfl ?_
          refine jr.iload rfl rfl ?_
          refine jr.iald (i := v22) (x := v23) rfl (nlt rfl) rfl (Nat.le_of_ble_eq_true rfl) (by omega) (by omega) ((ju_c _ _ (by decide)).trans e24) ?_
          refine jr_s rfl rfl (Or.inl rfl) ⟨Nat.le_of_ble_eq_true rfl, Nat.le_of_ble_eq_true rfl⟩ rfl rfl (jc.deep (r_fields (RI.u hI_M1 (a := 598) (i := 135) (show (0 : Int) ≤ _ ∧ _ ≤ (8 : Int) from by omega)) (RH.o hH_M1 (by decide) (by decide) (by decide)) (RF.o hS_M1 (by decide) (by decide)) (Kp.rfl _) (by omega)  (fun r25 z25 w25_0 => ?_)) (Nat.le_of_ble_eq_true rfl))
          refine jr.iconst rfl ?_
          refine jr.isub rfl ?_
          refine jr.i2l rfl (by omega) ?_
          refine jr_s rfl rfl (Or.inl rfl) ⟨Nat.le_of_ble_eq_true rfl, Nat.le_of_ble_eq_true rfl⟩ rfl rfl (jc.deep (c_within (by omega) (by omega) (by omega) (fun l111 u111 => ?_) (fun n111 => ?_)) (Nat.le_of_ble_eq_true rfl))
          · refine jr.if_ne rfl rfl (by first | exact rgl rfl | omega) (fun _ => ?_) (fun h => absurd (by decide) h)
            refine jr.aload_n rfl rfl ?_
            refine jr.getf (i := 121) (v := .ref 678) rfl rfl (nlt rfl) rfl (nlt rfl) rfl rfl rfl rfl ?_
            refine jr.bipush rfl (jbp _ (nlt rfl)) ?_
            refine jr.iload rfl rfl ?_
            refine jr.imul rfl ?_
            refine jr.iw (j_w (11 * v22)) (j_w_eq _) ?_
            have b26 : -2147483648 ≤ j_w (11 * v22) ∧ j_w (11 * v22) ≤ 2147483647 := jb_any _
            generalize j_w (11 * v22) = v26 at b26 ⊢
            refine jr.lload rfl rfl ?_
            refine jr.l2i rfl ?_
            refine jr.iadd rfl ?_
            refine jr.iw (j_w (v26 + f)) (j_w_eq _) ?_
            have b27 : -2147483648 ≤ j_w (v26 + f) ∧ j_w (v26 + f) ≤ 2147483647 := jb_any _
            generalize j_w (v26 + f) = v27 at b27 ⊢
            obtain ⟨v28, e28⟩ : ∃ z, M 678 v27 = z := ⟨_, rfl⟩
            have b28 : (-9223372036854775808) ≤ v28 ∧ v28 ≤ 9223372036854775807 := by rw [← e28]; exact (by have q := hI_M 678 v27 (Nat.le_of_ble_eq_true rfl); rw [xri_row rfl rfl] at q; exact q)
            have e29 : M1 678 v27 = v28 := ((w1_1 678 v27 (nne rfl)).trans e28)
            refine jr.lald (i := v27) (x := v28) rfl (nlt rfl) rfl (Nat.le_of_ble_eq_true rfl) (by omega) (by omega) ((ju_c _ _ (by decide)).trans e29) ?_
            exact jr.lreturn rfl rfl (q _ _ (RI.u hI_M1 (a := 598) (i := 135) (show (0 : Int) ≤ _ ∧ _ ≤ (8 : Int) from by omega)) (RH.o hH_M1 (by decide) (by decide) (by decide)) (RF.o hS_M1 (by decide) (by decide))  (by omega) (fun a i f598 => ((ju_c _ _ f598).trans ((w1_1 a i f598).trans rfl))) (fun i g135 => ((ju_i _ _ g135).trans ((w1_2 i g135).trans rfl))))
          · refine jr.if_ne rfl rfl (by first | exact rgl rfl | omega) (fun h => absurd h (by decide)) (fun _ => ?_)
            refine jr.aload_n rfl rfl ?_
            refine jr.iconst rfl ?_
            refine jr.putf (i := 135) (x := 2) rfl rfl (nlt rfl) rfl (nlt rfl) rfl rfl rfl rfl rfl ?_
            refine jr.lconst (x := 0) rfl (by decide) ?_
            exact jr.lreturn rfl rfl (q _ _ (RI.u (RI.u hI_M1 (a := 598) (i := 135) (show (0 : Int) ≤ _ ∧ _ ≤ (8 : Int) from by omega)) (a := 598) (i := 135) (show (0 : Int) ≤ _ ∧ _ ≤ (8 : Int) from by omega)) (RH.o (RH.o hH_M1 (by decide) (by decide) (by decide)) (by decide) (by decide) (by decide)) (RF.o (RF.o hS_M1 (by decide) (by decide)) (by decide) (by decide))  (by omega) (fun a i f598 => ((ju_c _ _ f598).trans ((ju_c _ _ f598).trans ((w1_1 a i f598).trans rfl)))) (fun i g135 => ((ju_i _ _ g135).trans ((ju_i _ _ g135).trans ((w1_2 i g135).trans rfl)))))
        · refine jr.aload_n rfl rfl ?_
          refine jr.iconst rfl ?_
          refine jr.putf (i := 135) (x := 1) rfl rfl (nlt rfl) rfl (nlt rfl) rfl rfl rfl rfl rfl ?_
          refine jr.lconst (x := 0) rfl (by decide) ?_
          exact jr.lreturn rfl rfl (q _ _ (RI.u (RI.u hI_M1 (a := 598) (i := 135) (show (0 : Int) ≤ _ ∧ _ ≤ (8 : Int) from by omega)) (a := 598) (i := 135) (show (0 : Int) ≤ _ ∧ _ ≤ (8 : Int) from by omega)) (RH.o (RH.o hH_M1 (by decide) (by decide) (by decide)) (by decide) (by decide) (by decide)) (RF.o (RF.o hS_M1 (by decide) (by decide)) (by decide) (by decide))  (by omega) (fun a i f598 => ((ju_c _ _ f598).trans ((ju_c _ _ f598).trans ((w1_1 a i f598).trans rfl)))) (fun i g135 => ((ju_i _ _ g135).trans ((ju_i _ _ g135).trans ((w1_2 i g135).trans rfl)))))
      · refine jr.lconst (x := 0) rfl (by decide) ?_
        exact jr.lreturn rfl rfl (q _ _ (RI.u hI_M1 (a := 598) (i := 135) (show (0 : Int) ≤ _ ∧ _ ≤ (8 : Int) from by omega)) (RH.o hH_M1 (by decide) (by decide) (by decide)) (RF.o hS_M1 (by decide) (by decide))  (by omega) (fun a i f598 => ((ju_c _ _ f598).trans ((w1_1 a i f598).trans rfl))) (fun i g135 => ((ju_i _ _ g135).trans ((w1_2 i g135).trans rfl))))
  · have sx11 : (1 : Int) ≤ v2 := by omega
    clear h11
    refine jr.lconst (x := 0) rfl (by decide) ?_
    exact jr.lreturn rfl rfl (q _ _ hI_M1 hH_M1 hS_M1  (by omega) (fun a i f598 => ((w1_1 a i f598).trans rfl)) (fun i g135 => ((w1_2 i g135).trans rfl)))
theorem r_spend {A : Nat → Option (Nat × (Nat → Int32))} {Q : Option Value → jm → Prop} {M : jm} (hI_M : RI M) (hH_M : RH M) (hS_M : RF M) {k : Int} (h_k : (-9223372036854775808) ≤ k ∧ k ≤ 9223372036854775807) (q : ∀ (r : Int) (M' : jm), RI M' → RH M' → RF M' → 0 ≤ r ∧ r ≤ 1 → (∀ (a : Nat) (i : Int), a ≠ 598 → a ≠ 624 → M' a i = M a i) → (∀ (i : Int), i ≠ 135 → M' 598 i = M 598 i) → Q (some (.long (Int64.ofInt r))) M') : jc A 2 390 [.ref (598), .long (Int64.ofInt (k))] M Q := by
  refine jc_of (m := xm_390) rfl (Nat.le_of_ble_eq_true rfl) rfl ?_
  refine jr.lload_n rfl rfl ?_
  refine jr.lconst (x := 0) rfl (by decide) ?_
  refine jr.ldc2 (x := 3) rfl rfl (by decide) ?_
  refine jr_s rfl rfl (Or.inl rfl) ⟨Nat.le_of_ble_eq_true rfl, Nat.le_of_ble_eq_true rfl⟩ rfl rfl (jc.deep (c_within (by omega) (by omega) (by omega) (fun l5 u5 => ?_) (fun n5 => ?_)) (Nat.le_of_ble_eq_true rfl))
  · refine jr.if_ne rfl rfl (by first | exact rgl rfl | omega) (fun _ => ?_) (fun h => absurd (by decide) h)
    refine jr.aload_n rfl rfl ?_
    refine jr.getf (i := 36) (v := .ref 624) rfl rfl (nlt rfl) rfl (nlt rfl) rfl rfl rfl rfl ?_
    refine jr.lload_n rfl rfl ?_
    refine jr.l2i rfl ?_
    obtain ⟨v1, e1⟩ : ∃ z, M 624 k = z := ⟨_, rfl⟩
    have b1 : 0 ≤ v1 ∧ v1 ≤ 1000 := by rw [← e1]; exact (by have q := hI_M 624 k (Nat.le_of_ble_eq_true rfl); rw [xri_row rfl rfl] at q; exact q)
    refine jr.iald (i := k) (x := v1) rfl (nlt rfl) rfl (Nat.le_of_ble_eq_true rfl) (by omega) (by omega) e1 ?_
    refine jr.if_ne rfl rfl (by first | (refine rgb (by assumption) ?_; exact rfl) | omega) (fun h25 => ?_) (fun h25 => ?_)
    · have sx25 : (1 : Int) ≤ v1 := by omega
      clear h25
      refine jr.aload_n rfl rfl ?_
      refine jr.getf (i := 36) (v := .ref 624) rfl rfl (nlt rfl) rfl (nlt rfl) rfl rfl rfl rfl ?_
      refine jr.lload_n rfl rfl ?_
      refine jr.l2i rfl ?_
      refine jr.dup2 rfl ⟨rfl, rfl⟩ ?_
      refine jr.iald (i := k) (x := v1) rfl (nlt rfl) rfl (Nat.le_of_ble_eq_true rfl) (by omega) (by omega) e1 ?_
      refine jr.iconst rfl ?_
      refine jr.isub rfl ?_
      refine jr.iast (i := k) (x := (v1 - 1)) rfl (nlt rfl) rfl (Nat.le_of_ble_eq_true rfl) (by omega) (by omega) ?_
      refine jr.lconst (x := 1) rfl (by decide) ?_
      exact jr.lreturn rfl rfl (q _ _ (RI.u hI_M (a := 624) (i := k) (by rw [xri_row rfl rfl]; show (0 : Int) ≤ _ ∧ _ ≤ (1000 : Int); omega)) (RH.o hH_M (by decide) (by decide) (by decide)) (RF.o hS_M (by decide) (by decide))  (by omega) (fun a i f598 f624 => ((ju_c _ _ f624).trans rfl)) (fun i g135 => ((ju_c _ _ (by decide)).trans rfl)))
    · refine jr.lconst (x := 0) rfl (by decide) ?_
      exact jr.lreturn rfl rfl (q _ _ hI_M hH_M hS_M  (by omega) (fun a i f598 f624 => rfl) (fun i g135 => rfl))
  · refine jr.if_ne rfl rfl (by first | exact rgl rfl | omega) (fun h => absurd h (by decide)) (fun _ => ?_)
    refine jr.aload_n rfl rfl ?_
    refine jr.iconst rfl ?_
    refine jr.putf (i := 135) (x := 2) rfl rfl (nlt rfl) rfl (nlt rfl) rfl rfl rfl rfl rfl ?_
    refine jr.lconst (x := 0) rfl (by decide) ?_
    exact jr.lreturn rfl rfl (q _ _ (RI.u hI_M (a := 598) (i := 135) (show (0 : Int) ≤ _ ∧ _ ≤ (8 : Int) from by omega)) (RH.o hH_M (by decide) (by decide) (by decide)) (RF.o hS_M (by decide) (by decide))  (by omega) (fun a i f598 f624 => ((ju_c _ _ f598).trans rfl)) (fun i g135 => ((ju_i _ _ g135).trans rfl)))
theorem r_isIn_L24 {A : Nat → Option (Nat × (Nat → Int32))} {Q : Option Value → jm → Prop} {M0 : jm} {k0 : Int} (q : ∀ (r : Int) (M' : jm), RI M' → RH M' → RF M' → 0 ≤ r ∧ r ≤ 1 → (M' 598 135 ≠ 0 ∨ (0 ≤ k0 ∧ k0 ≤ 3 ∧ M' 598 135 = M0 598 135)) → (∀ (a : Nat) (i : Int), a ≠ 598 → M' a i = M0 a i) → (∀ (i : Int), i ≠ 135 → M' 598 i = M0 598 i) → Q (some (.int (Int32.ofInt r))) M') : ∀ (nM : Nat) (M : jm) (i : Int) (b : Int) (v : Int) (k : Int), RI M → RH M → RF M → (∀ (a : Nat) (i : Int), a ≠ 598 → M a i = M0 a i) → (∀ (i : Int), i ≠ 135 → M 598 i = M0 598 i) → 0 ≤ i ∧ i ≤ 16 → 0 ≤ b ∧ b ≤ 1 → (-9223372036854775808) ≤ v ∧ v ≤ 9223372036854775807 → 0 ≤ k ∧ k ≤ 3 → M 598 135 = M0 598 135 → k = k0 → 16 - i ≤ nM → jr A 1 xm_391 24 [(6, .int (Int32.ofInt (i))), (5, .int (Int32.ofInt (b))), (3, .long (Int64.ofInt (v))), (1, .long (Int64.ofInt (k))), (0, .ref (598))] [] M Q := by
  intro nM
  induction nM using Nat.strongRecOn with
  | ind nM ih =>
    intro M i b v k hI_M hH_M hS_M hF_M hG_M h_i h_b h_v h_k hy0 hy1 hm
    subst hy1
    refine jr.iload rfl rfl ?_
    refine jr.aload_n rfl rfl ?_
    refine jr.getf (i := 115) (v := .ref 672) rfl rfl (nlt rfl) rfl (nlt rfl) rfl rfl rfl rfl ?_
    refine jr.lload_n rfl rfl ?_
    refine jr.l2i rfl ?_
    obtain ⟨v1, e1⟩ : ∃ z, M 672 k = z := ⟨_, rfl⟩
    have b1 : 0 ≤ v1 ∧ v1 ≤ 16 := by rw [← e1]; exact (by have q := hI_M 672 k (Nat.le_of_ble_eq_true rfl); rw [xri_row rfl rfl] at q; exact q)
    refine jr.iald (i := k) (x := v1) rfl (nlt rfl) rfl (Nat.le_of_ble_eq_true rfl) (by omega) (by omega) e1 ?_
    refine jr.icmp_ge rfl rfl (by first | (refine rgb (by assumption) ?_; exact rfl) | omega) (by first | (refine rgb (by assumption) ?_; exact rfl) | omega) (fun h33 => ?_) (fun h33 => ?_)
    · refine jr.iload rfl rfl ?_
      obtain ⟨v2, e2⟩ : ∃ z, M 598 135 = z := ⟨_, rfl⟩
      have b2 : 0 ≤ v2 ∧ v2 ≤ 8 := by rw [← e2]; exact hI_M 598 135 (Nat.le_of_ble_eq_true rfl)
      exact jr.ireturn rfl rfl (j_zr (by omega)) (q _ _ hI_M hH_M hS_M  (by omega) (by omega) (fun a i f598 => (hF_M a i f598)) (fun i g135 => (hG_M i g135)))
    · refine jr.iload rfl rfl ?_
      refine jr.if_ne rfl rfl (by first | (refine rgb (by assumption) ?_; exact rfl) | omega) (fun h38 => ?_) (fun h38 => ?_)
      · refine jr.iconst rfl ?_
        refine jr.goto rfl rfl ?_
        refine jr.istore (ls' := [_, _, _, _, _]) rfl (nlt rfl) rfl ?_
        refine jr.iinc (ls' := [_, _, _, _, _]) rfl rfl (nlt rfl) rfl ?_
        refine jr.goto rfl rfl ?_
        obtain ⟨v4, e4⟩ : ∃ z, M 598 135 = z := ⟨_, rfl⟩
        have b4 : 0 ≤ v4 ∧ v4 ≤ 8 := by rw [← e4]; exact hI_M 598 135 (Nat.le_of_ble_eq_true rfl)
        refine jr.pick (ls := [_, _, _, _, _]) [0, 1, 2, 3, 4] rfl rfl ?_
        exact ih (nM - 1) (by omega) M (i + 1) 1 v k hI_M hH_M hS_M  (fun a i f598 => (hF_M a i f598)) (fun i g135 => (hG_M i g135)) (by omega) (by omega) (by omega) (by omega) (by rw [e4] <;> omega) (by omega) (by omega)
      · refine jr.aload_n rfl rfl ?_
        refine jr.getf (i := 116) (v := .ref 673) rfl rfl (nlt rfl) rfl (nlt rfl) rfl rfl rfl rfl ?_
        refine jr.bipush rfl (jbp _ (nlt rfl)) ?_
        refine jr.lload_n rfl rfl ?_
        refine jr.l2i rfl ?_
        refine jr.imul rfl ?_
        refine jr.iload rfl rfl ?_
        refine jr.iadd rfl ?_
        obtain ⟨v5, e5⟩ : ∃ z, M 673 ((16 * k) + i) = z := ⟨_, rfl⟩
        have b5 : (-9223372036854775808) ≤ v5 ∧ v5 ≤ 9223372036854775807 := by rw [← e5]; exact (by have q := hI_M 673 ((16 * k) + i) (by decide); rw [xri_row rfl rfl] at q; exact q)
        refine jr.lald (i := ((16 * k) + i)) (x := v5) rfl (nlt rfl) rfl (Nat.le_of_ble_eq_true rfl) (by omega) (by omega) e5 ?_
        refine jr.lload_n rfl rfl ?_
        refine jr.lcmp_ne rfl rfl rfl (by omega) (by omega) (fun h55 => ?_) (fun h55 => ?_)
        · refine jr.iconst rfl ?_
          refine jr.istore (ls' := [_, _, _, _, _]) rfl (nlt rfl) rfl ?_
          refine jr.iinc (ls' := [_, _, _, _, _]) rfl rfl (nlt rfl) rfl ?_
          refine jr.goto rfl rfl ?_
          obtain ⟨v6, e6⟩ : ∃ z, M 598 135 = z := ⟨_, rfl⟩
          have b6 : 0 ≤ v6 ∧ v6 ≤ 8 := by rw [← e6]; exact hI_M 598 135 (Nat.le_of_ble_eq_true rfl)
          refine jr.pick (ls := [_, _, _, _, _]) [0, 1, 2, 3, 4] rfl rfl ?_
          exact ih (nM - 1) (by omega) M (i + 1) 0 v k hI_M hH_M hS_M  (fun a i f598 => (hF_M a i f598)) (fun i g135 => (hG_M i g135)) (by omega) (by omega) (by omega) (by omega) (by rw [e6] <;> omega) (by omega) (by omega)
        · refine jr.iconst rfl ?_
          refine jr.goto rfl rfl ?_
          refine jr.istore (ls' := [_, _, _, _, _]) rfl (nlt rfl) rfl ?_
          refine jr.iinc (ls' := [_, _, _, _, _]) rfl rfl (nlt rfl) rfl ?_
          refine jr.goto rfl rfl ?_
          obtain ⟨v7, e7⟩ : ∃ z, M 598 135 = z := ⟨_, rfl⟩
          have b7 : 0 ≤ v7 ∧ v7 ≤ 8 := by rw [← e7]; exact hI_M 598 135 (Nat.le_of_ble_eq_true rfl)
          refine jr.pick (ls := [_, _, _, _, _]) [0, 1, 2, 3, 4] rfl rfl ?_
          exact ih (nM - 1) (by omega) M (i + 1) 1 v k hI_M hH_M hS_M  (fun a i f598 => (hF_M a i f598)) (fun i g135 => (hG_M i g135)) (by omega) (by omega) (by omega) (by omega) (by rw [e7] <;> omega) (by omega) (by omega)
theorem r_isIn {A : Nat → Option (Nat × (Nat → Int32))} {Q : Option Value → jm → Prop} {M : jm} (hI_M : RI M) (hH_M : RH M) (hS_M : RF M) {k : Int} (h_k : (-9223372036854775808) ≤ k ∧ k ≤ 9223372036854775807) {v : Int} (h_v : (-9223372036854775808) ≤ v ∧ v ≤ 9223372036854775807) (q : ∀ (r : Int) (M' : jm), RI M' → RH M' → RF M' → 0 ≤ r ∧ r ≤ 1 → (M' 598 135 ≠ 0 ∨ (0 ≤ k ∧ k ≤ 3 ∧ M' 598 135 = M 598 135)) → (∀ (a : Nat) (i : Int), a ≠ 598 → M' a i = M a i) → (∀ (i : Int), i ≠ 135 → M' 598 i = M 598 i) → Q (some (.int (Int32.ofInt r))) M') : jc A 2 391 [.ref (598), .long (Int64.ofInt (k)), .long (Int64.ofInt (v))] M Q := by
  refine jc_of (m := xm_391) rfl (Nat.le_of_ble_eq_true rfl) rfl ?_
  refine jr.lload_n rfl rfl ?_
  refine jr.lconst (x := 0) rfl (by decide) ?_
  refine jr.ldc2 (x := 3) rfl rfl (by decide) ?_
  refine jr_s rfl rfl (Or.inl rfl) ⟨Nat.le_of_ble_eq_true rfl, Nat.le_of_ble_eq_true rfl⟩ rfl rfl (jc.deep (c_within (by omega) (by omega) (by omega) (fun l5 u5 => ?_) (fun n5 => ?_)) (Nat.le_of_ble_eq_true rfl))
  · refine jr.if_ne rfl rfl (by first | exact rgl rfl | omega) (fun _ => ?_) (fun h => absurd (by decide) h)
    refine jr.iconst rfl ?_
    refine jr.istore (ls' := [_, _, _, _]) rfl (nlt rfl) rfl ?_
    refine jr.iconst rfl ?_
    refine jr.istore (ls' := [_, _, _, _, _]) rfl (nlt rfl) rfl ?_
    obtain ⟨v1, e1⟩ : ∃ z, M 598 135 = z := ⟨_, rfl⟩
    have b1 : 0 ≤ v1 ∧ v1 ≤ 8 := by rw [← e1]; exact hI_M 598 135 (Nat.le_of_ble_eq_true rfl)
    refine jr.pick (ls := [_, _, _, _, _]) [0, 1, 4, 3, 2] rfl rfl ?_
    exact r_isIn_L24 q 16 M 0 0 v k hI_M hH_M hS_M  (fun a i f598 => rfl) (fun i g135 => rfl) (by omega) (by omega) (by omega) (by omega) (by rw [e1] <;> omega) (by omega) (by omega)
  · refine jr.if_ne rfl rfl (by first | exact rgl rfl | omega) (fun h => absurd h (by decide)) (fun _ => ?_)
    refine jr.aload_n rfl rfl ?_
    refine jr.iconst rfl ?_
    refine jr.putf (i := 135) (x := 2) rfl rfl (nlt rfl) rfl (nlt rfl) rfl rfl rfl rfl rfl ?_
    refine jr.iconst rfl ?_
    have y2 : (ju M 598 135 2) 598 135 = 2 := (ju_same _ _ _ _)
    obtain ⟨v3, e3⟩ : ∃ z, M 598 135 = z := ⟨_, rfl⟩
    have b3 : 0 ≤ v3 ∧ v3 ≤ 8 := by rw [← e3]; exact hI_M 598 135 (Nat.le_of_ble_eq_true rfl)
    exact jr.ireturn rfl rfl rfl (q _ _ (RI.u hI_M (a := 598) (i := 135) (show (0 : Int) ≤ _ ∧ _ ≤ (8 : Int) from by omega)) (RH.o hH_M (by decide) (by decide) (by decide)) (RF.o hS_M (by decide) (by decide))  (by omega) (by omega) (fun a i f598 => ((ju_c _ _ f598).trans rfl)) (fun i g135 => ((ju_i _ _ g135).trans rfl)))
theorem r_needed {A : Nat → Option (Nat × (Nat → Int32))} {Q : Option Value → jm → Prop} {M : jm} (hI_M : RI M) (hH_M : RH M) (hS_M : RF M) {v : Int} (h_v : (-9223372036854775808) ≤ v ∧ v ≤ 9223372036854775807) (q : ∀ (r : Int) (M' : jm), RI M' → RH M' → RF M' → (-9223372036854775808) ≤ r ∧ r ≤ 9223372036854775807 → (∀ (a : Nat) (i : Int), a ≠ 598 → M' a i = M a i) → (∀ (i : Int), i ≠ 135 → M' 598 i = M 598 i) → Q (some (.long (Int64.ofInt r))) M') : jc A 4 392 [.ref (598), .long (Int64.ofInt (v))] M Q := by
  refine jc_of (m := xm_392) rfl (Nat.le_of_ble_eq_true rfl) rfl ?_
  refine jr.aload_n rfl rfl ?_
  refine jr.aload_n rfl rfl ?_
  refine jr.aload_n rfl rfl ?_
  obtain ⟨v1, e1⟩ : ∃ z, M 598 133 = z := ⟨_, rfl⟩
  have b1 : 0 ≤ v1 ∧ v1 ≤ 23 := by rw [← e1]; exact hI_M 598 133 (Nat.le_of_ble_eq_true rfl)
  refine jr.getf (i := 133) (x := v1) (v := .int (Int32.ofInt (v1))) rfl rfl (nlt rfl) rfl (nlt rfl) rfl rfl e1 rfl ?_
  refine jr_v rfl rfl (Or.inl rfl) rfl rfl (nlt rfl) rfl ⟨rfl, Nat.le_of_ble_eq_true rfl, Nat.le_of_ble_eq_true rfl⟩ rfl (jc.deep (c_isThere hI_M (by omega) (fun l6 u6 t6 => ?_) (fun n6 => ?_)) (Nat.le_of_ble_eq_true rfl))
  · refine jr.if_eq rfl rfl (by first | exact rgl rfl | omega) (fun h => absurd h (by decide)) (fun _ => ?_)
    refine jr.iconst rfl ?_
    refine jr.goto rfl rfl ?_
    refine jr.putf (i := 135) (x := 0) rfl rfl (nlt rfl) rfl (nlt rfl) rfl rfl rfl rfl rfl ?_
    refine jr.aload_n rfl rfl ?_
    refine jr.getf (i := 135) (x := 0) (v := .int (Int32.ofInt (0))) rfl rfl (nlt rfl) rfl (nlt rfl) rfl rfl (ju_same _ _ _ _) rfl ?_
    refine jr.if_ne rfl rfl (by first | (refine rgb (by assumption) ?_; exact rfl) | omega) (fun h24 => ?_) (fun h24 => ?_)
    · refine jr.lconst (x := 0) rfl (by decide) ?_
      exact jr.lreturn rfl rfl (q _ _ (RI.u hI_M (a := 598) (i := 135) (show (0 : Int) ≤ _ ∧ _ ≤ (8 : Int) from by omega)) (RH.o hH_M (by decide) (by decide) (by decide)) (RF.o hS_M (by decide) (by decide))  (by omega) (fun a i f598 => ((ju_c _ _ f598).trans rfl)) (fun i g135 => ((ju_i _ _ g135).trans rfl)))
    · refine jr.lload_n rfl rfl ?_
      refine jr.goto rfl rfl ?_
      exact jr.lreturn rfl rfl (q _ _ (RI.u hI_M (a := 598) (i := 135) (show (0 : Int) ≤ _ ∧ _ ≤ (8 : Int) from by omega)) (RH.o hH_M (by decide) (by decide) (by decide)) (RF.o hS_M (by decide) (by decide))  (by omega) (fun a i f598 => ((ju_c _ _ f598).trans rfl)) (fun i g135 => ((ju_i _ _ g135).trans rfl)))
  · refine jr.if_eq rfl rfl (by first | exact rgl rfl | omega) (fun _ => ?_) (fun h => absurd (by decide) h)
    refine jr.iconst rfl ?_
    refine jr.putf (i := 135) (x := 1) rfl rfl (nlt rfl) rfl (nlt rfl) rfl rfl rfl rfl rfl ?_
    refine jr.aload_n rfl rfl ?_
    refine jr.getf (i := 135) (x := 1) (v := .int (Int32.ofInt (1))) rfl rfl (nlt rfl) rfl (nlt rfl) rfl rfl (ju_same _ _ _ _) rfl ?_
    refine jr.if_ne rfl rfl (by first | (refine rgb (by assumption) ?_; exact rfl) | omega) (fun h24 => ?_) (fun h24 => ?_)
    · refine jr.lconst (x := 0) rfl (by decide) ?_
      exact jr.lreturn rfl rfl (q _ _ (RI.u hI_M (a := 598) (i := 135) (show (0 : Int) ≤ _ ∧ _ ≤ (8 : Int) from by omega)) (RH.o hH_M (by decide) (by decide) (by decide)) (RF.o hS_M (by decide) (by decide))  (by omega) (fun a i f598 => ((ju_c _ _ f598).trans rfl)) (fun i g135 => ((ju_i _ _ g135).trans rfl)))
    · refine jr.lload_n rfl rfl ?_
      refine jr.goto rfl rfl ?_
      exact jr.lreturn rfl rfl (q _ _ (RI.u hI_M (a := 598) (i := 135) (show (0 : Int) ≤ _ ∧ _ ≤ (8 : Int) from by omega)) (RH.o hH_M (by decide) (by decide) (by decide)) (RF.o hS_M (by decide) (by decide))  (by omega) (fun a i f598 => ((ju_c _ _ f598).trans rfl)) (fun i g135 => ((ju_i _ _ g135).trans rfl)))
theorem r_byteAt {A : Nat → Option (Nat × (Nat → Int32))} {Q : Option Value → jm → Prop} {M : jm} (hI_M : RI M) (hH_M : RH M) (hS_M : RF M) {i : Int} (h_i : (-9223372036854775808) ≤ i ∧ i ≤ 9223372036854775807) (q : ∀ (r : Int) (M' : jm), RI M' → RH M' → RF M' → (-9223372036854775808) ≤ r ∧ r ≤ 9223372036854775807 → (∀ (a : Nat) (i : Int), a ≠ 598 → M' a i = M a i) → (∀ (i : Int), i ≠ 135 → M' 598 i = M 598 i) → Q (some (.long (Int64.ofInt r))) M') : jc A 4 393 [.ref (598), .long (Int64.ofInt (i))] M Q := by
  refine jc_of (m := xm_393) rfl (Nat.le_of_ble_eq_true rfl) rfl ?_
  refine jr.aload_n rfl rfl ?_
  refine jr.aload_n rfl rfl ?_
  obtain ⟨v1, e1⟩ : ∃ z, M 598 133 = z := ⟨_, rfl⟩
  have b1 : 0 ≤ v1 ∧ v1 ≤ 23 := by rw [← e1]; exact hI_M 598 133 (Nat.le_of_ble_eq_true rfl)
  refine jr.getf (i := 133) (x := v1) (v := .int (Int32.ofInt (v1))) rfl rfl (nlt rfl) rfl (nlt rfl) rfl rfl e1 rfl ?_
  refine jr_v rfl rfl (Or.inl rfl) rfl rfl (nlt rfl) rfl ⟨rfl, Nat.le_of_ble_eq_true rfl, Nat.le_of_ble_eq_true rfl⟩ rfl (jc.deep (c_isThere hI_M (by omega) (fun l5 u5 t5 => ?_) (fun n5 => ?_)) (Nat.le_of_ble_eq_true rfl))
  · refine jr.if_ne rfl rfl (by first | exact rgl rfl | omega) (fun _ => ?_) (fun h => absurd (by decide) h)
    refine jr.lload_n rfl rfl ?_
    refine jr.lconst (x := 0) rfl (by decide) ?_
    refine jr.aload_n rfl rfl ?_
    refine jr.getf (i := 3) (v := .ref 600) rfl rfl (nlt rfl) rfl (nlt rfl) rfl rfl rfl rfl ?_
    refine jr.aload_n rfl rfl ?_
    refine jr.getf (i := 133) (x := v1) (v := .int (Int32.ofInt (v1))) rfl rfl (nlt rfl) rfl (nlt rfl) rfl rfl e1 rfl ?_
    obtain ⟨v2, e2⟩ : ∃ z, M 600 v1 = z := ⟨_, rfl⟩
    have b2 : (-1) ≤ v2 ∧ v2 ≤ 400 := by rw [← e2]; exact (by have q := hI_M 600 v1 (Nat.le_of_ble_eq_true rfl); rw [xri_row rfl rfl] at q; exact q)
    refine jr.iald (i := v1) (x := v2) rfl (nlt rfl) rfl (Nat.le_of_ble_eq_true rfl) (by omega) (by omega) e2 ?_
    refine jr.iconst rfl ?_
    refine jr.isub rfl ?_
    refine jr.i2l rfl (by omega) ?_
    refine jr_s rfl rfl (Or.inl rfl) ⟨Nat.le_of_ble_eq_true rfl, Nat.le_of_ble_eq_true rfl⟩ rfl rfl (jc.deep (c_within (by omega) (by omega) (by omega) (fun l32 u32 => ?_) (fun n32 => ?_)) (Nat.le_of_ble_eq_true rfl))
    · refine jr.if_ne rfl rfl (by first | exact rgl rfl | omega) (fun _ => ?_) (fun h => absurd (by decide) h)
      refine jr.aload_n rfl rfl ?_
      refine jr.aload_n rfl rfl ?_
      refine jr.getf (i := 133) (x := v1) (v := .int (Int32.ofInt (v1))) rfl rfl (nlt rfl) rfl (nlt rfl) rfl rfl e1 rfl ?_
      refine jr.lload_n rfl rfl ?_
      refine jr.l2i rfl ?_
      refine jr_v rfl rfl (Or.inl rfl) rfl rfl (nlt rfl) rfl ⟨rfl, Nat.le_of_ble_eq_true rfl, Nat.le_of_ble_eq_true rfl⟩ rfl (jc.deep (r_one hI_M hH_M hS_M (Kp.rfl _) (by omega) (by omega)  (fun r3 z3 w3_0 => ?_)) (Nat.le_of_ble_eq_true rfl))
      refine jr.i2l rfl (by omega) ?_
      exact jr.lreturn rfl rfl (q _ _ hI_M hH_M hS_M  (by omega) (fun a i f598 => rfl) (fun i g135 => rfl))
    · refine jr.if_ne rfl rfl (by first | exact rgl rfl | omega) (fun h => absurd h (by decide)) (fun _ => ?_)
      refine jr.aload_n rfl rfl ?_
      refine jr.iconst rfl ?_
      refine jr.putf (i := 135) (x := 2) rfl rfl (nlt rfl) rfl (nlt rfl) rfl rfl rfl rfl rfl ?_
      refine jr.lconst (x := 0) rfl (by decide) ?_
      exact jr.lreturn rfl rfl (q _ _ (RI.u hI_M (a := 598) (i := 135) (show (0 : Int) ≤ _ ∧ _ ≤ (8 : Int) from by omega)) (RH.o hH_M (by decide) (by decide) (by decide)) (RF.o hS_M (by decide) (by decide))  (by omega) (fun a i f598 => ((ju_c _ _ f598).trans rfl)) (fun i g135 => ((ju_i _ _ g135).trans rfl)))
  · refine jr.if_ne rfl rfl (by first | exact rgl rfl | omega) (fun h => absurd h (by decide)) (fun _ => ?_)
    refine jr.aload_n rfl rfl ?_
    refine jr.iconst rfl ?_
    refine jr.putf (i := 135) (x := 1) rfl rfl (nlt rfl) rfl (nlt rfl) rfl rfl rfl rfl rfl ?_
    refine jr.lconst (x := 0) rfl (by decide) ?_
    exact jr.lreturn rfl rfl (q _ _ (RI.u hI_M (a := 598) (i := 135) (show (0 : Int) ≤ _ ∧ _ ≤ (8 : Int) from by omega)) (RH.o hH_M (by decide) (by decide) (by decide)) (RF.o hS_M (by decide) (by decide))  (by omega) (fun a i f598 => ((ju_c _ _ f598).trans rfl)) (fun i g135 => ((ju_i _ _ g135).trans rfl)))
