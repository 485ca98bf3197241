theorem r_next_L104 {A : Nat → Option (Nat × (Nat → Int32))} {Q : Option Value → jm → Prop} {M0 : jm} (q : ∀ (M' : jm), RI M' → RH M' → RF M' → M' 598 73 ≤ M' 598 72 → M0 598 73 ≤ M' 598 73 → TK M' ≤ TK M0 → (M0 598 74 ≠ 0 → TK M' < TK M0) → (M' 598 74 = 3 → M' 598 79 ≠ 10 ∧ M' 598 79 ≠ 11) → (∀ (a : Nat) (i : Int), a ≠ 598 → M' a i = M0 a i) → (∀ (i : Int), i ≠ 73 → i ≠ 74 → i ≠ 75 → i ≠ 76 → i ≠ 77 → i ≠ 78 → i ≠ 79 → M' 598 i = M0 598 i) → Q none M') : ∀ (nM : Nat) (M : jm) , RI M → RH M → RF M → (∀ (a : Nat) (i : Int), a ≠ 598 → M a i = M0 a i) → (∀ (i : Int), i ≠ 73 → i ≠ 74 → i ≠ 75 → i ≠ 76 → i ≠ 77 → i ≠ 78 → i ≠ 79 → M 598 i = M0 598 i) → M 598 73 ≤ M 598 72 → M0 598 73 ≤ M 598 75 ∧ M 598 75 ≤ M 598 73 → 0 ≤ M0 598 74 → (M 598 75 < M 598 73 ∨ (M 598 73 < M 598 72 ∧ 97 ≤ M 651 (M 598 73) ∧ M 651 (M 598 73) ≤ 122)) → 1600 - M 598 73 ≤ nM → jr A 1 xm_344 104 [(0, .ref (598))] [] M Q := by
  intro nM
  induction nM using Nat.strongRecOn with
  | ind nM ih =>
    intro M  hI_M hH_M hS_M hF_M hG_M  hy0 hy1 hy2 hy3 hm
    obtain ⟨a0, ha0⟩ : ∃ z, M 598 73 = z := ⟨_, rfl⟩
    rw [ha0] at hy3
    have ba : (0 : Int) ≤ a0 ∧ a0 ≤ 1600 := by rw [← ha0]; exact hI_M 598 73 (by decide)
    refine jr.aload_n rfl rfl ?_
    refine jr.getf (i := 73) (x := a0) (v := .int (Int32.ofInt (a0))) rfl rfl (by decide) rfl (by decide) rfl rfl ha0 rfl ?_
    refine jr.aload_n rfl rfl ?_
    obtain ⟨v1, e1⟩ : ∃ z, M 598 72 = z := ⟨_, rfl⟩
    have b1 : 0 ≤ v1 ∧ v1 ≤ 1600 := by rw [← e1]; exact hI_M 598 72 (by decide)
    refine jr.getf (i := 72) (x := v1) (v := .int (Int32.ofInt (v1))) rfl rfl (by decide) rfl (by decide) rfl rfl e1 rfl ?_
    refine jr.icmp_ge rfl rfl (by omega) (by omega) (fun h112 => ?_) (fun h112 => ?_)
    · refine jr.aload_n rfl rfl ?_
      refine jr.aload_n rfl rfl ?_
      refine jr.getf (i := 73) (x := a0) (v := .int (Int32.ofInt (a0))) rfl rfl (by decide) rfl (by decide) rfl rfl ha0 rfl ?_
      refine jr.aload_n rfl rfl ?_
      obtain ⟨v2, e2⟩ : ∃ z, M 598 75 = z := ⟨_, rfl⟩
      have b2 : 0 ≤ v2 ∧ v2 ≤ 1600 := by rw [← e2]; exact hI_M 598 75 (by decide)
      refine jr.getf (i := 75) (x := v2) (v := .int (Int32.ofInt (v2))) rfl rfl (by decide) rfl (by decide) rfl rfl e2 rfl ?_
      refine jr.isub rfl ?_
      refine jr.bipush rfl (by decide) ?_
      refine jr.icmp_le rfl rfl (by omega) (by omega) (fun h200 => ?_) (fun h200 => ?_)
      · refine jr.iconst rfl ?_
        refine jr.putf (i := 74) (x := 1) rfl rfl (by decide) rfl (by decide) rfl rfl rfl rfl rfl ?_
        refine jr.iconst rfl ?_
        refine jr.istore_n (ls' := [_, _]) rfl (by decide) rfl ?_
        refine jr.pick (ls := [_, _]) [0, 1] rfl rfl ?_
        exact r_next_L213 q 69 (ju M 598 74 1) 0 (RI.u hI_M (a := 598) (i := 74) (show (0 : Int) ≤ _ ∧ _ ≤ (4 : Int) from by omega)) (RH.o hH_M (by decide) (by decide) (by decide)) (RF.o hS_M (by decide) (by decide))  (fun a i f598 => ((ju_c _ _ f598).trans (hF_M a i f598))) (fun i g73 g74 g75 g76 g77 g78 g79 => ((ju_i _ _ g74).trans (hG_M i g73 g74 g75 g76 g77 g78 g79))) (by omega) (by rw [((ju_i _ _ (by decide)).trans ha0), ((ju_i _ _ (by decide)).trans e1)] <;> omega) (by rw [((ju_i _ _ (by decide)).trans ha0)] <;> omega) (by omega) (by rw [(ju_same _ _ _ _)] <;> omega) (by omega)
      · refine jr.iconst rfl ?_
        refine jr.goto rfl rfl ?_
        refine jr.putf (i := 74) (x := 4) rfl rfl (by decide) rfl (by decide) rfl rfl rfl rfl rfl ?_
        refine jr.iconst rfl ?_
        refine jr.istore_n (ls' := [_, _]) rfl (by decide) rfl ?_
        refine jr.pick (ls := [_, _]) [0, 1] rfl rfl ?_
        exact r_next_L213 q 69 (ju M 598 74 4) 0 (RI.u hI_M (a := 598) (i := 74) (show (0 : Int) ≤ _ ∧ _ ≤ (4 : Int) from by omega)) (RH.o hH_M (by decide) (by decide) (by decide)) (RF.o hS_M (by decide) (by decide))  (fun a i f598 => ((ju_c _ _ f598).trans (hF_M a i f598))) (fun i g73 g74 g75 g76 g77 g78 g79 => ((ju_i _ _ g74).trans (hG_M i g73 g74 g75 g76 g77 g78 g79))) (by omega) (by rw [((ju_i _ _ (by decide)).trans ha0), ((ju_i _ _ (by decide)).trans e1)] <;> omega) (by rw [((ju_i _ _ (by decide)).trans ha0)] <;> omega) (by omega) (by rw [(ju_same _ _ _ _)] <;> omega) (by omega)
    · refine jr.aload_n rfl rfl ?_
      refine jr.getf (i := 71) (v := .ref 651) rfl rfl (by decide) rfl (by decide) rfl rfl rfl rfl ?_
      refine jr.aload_n rfl rfl ?_
      refine jr.getf (i := 73) (x := a0) (v := .int (Int32.ofInt (a0))) rfl rfl (by decide) rfl (by decide) rfl rfl ha0 rfl ?_
      obtain ⟨v3, e3⟩ : ∃ z, M 651 a0 = z := ⟨_, rfl⟩
      have b3 : 0 ≤ v3 ∧ v3 ≤ 255 := by rw [← e3]; exact (by have q := hI_M 651 a0 (by decide); rw [xri_row rfl rfl] at q; exact q)
      refine jr.iald (i := a0) (x := v3) rfl (by decide) rfl (by decide) (by omega) (by omega) e3 ?_
      refine jr_s rfl rfl (Or.inl rfl) ⟨Nat.le_of_ble_eq_true rfl, Nat.le_of_ble_eq_true rfl⟩ rfl rfl (jc.deep (c_isLetter  (by omega) (fun t124_0 t124_1 => ?_) (fun f124_0 => ?_)) (by decide))
      · refine jr.if_eq rfl rfl (by omega) (fun h => absurd h (by decide)) (fun _ => ?_)
        refine jr.aload_n rfl rfl ?_
        refine jr.aload_n rfl rfl ?_
        refine jr.getf (i := 73) (x := a0) (v := .int (Int32.ofInt (a0))) rfl rfl (by decide) rfl (by decide) rfl rfl ha0 rfl ?_
        refine jr.aload_n rfl rfl ?_
        obtain ⟨v4, e4⟩ : ∃ z, M 598 75 = z := ⟨_, rfl⟩
        have b4 : 0 ≤ v4 ∧ v4 ≤ 1600 := by rw [← e4]; exact hI_M 598 75 (by decide)
        refine jr.getf (i := 75) (x := v4) (v := .int (Int32.ofInt (v4))) rfl rfl (by decide) rfl (by decide) rfl rfl e4 rfl ?_
        refine jr.isub rfl ?_
        refine jr.bipush rfl (by decide) ?_
        refine jr.icmp_ge rfl rfl (by omega) (by omega) (fun h142 => ?_) (fun h142 => ?_)
        · refine jr.aload_n rfl rfl ?_
          obtain ⟨v5, e5⟩ : ∃ z, M 598 77 = z := ⟨_, rfl⟩
          have b5 : (-9223372036854775808) ≤ v5 ∧ v5 ≤ 9223372036854775807 := by rw [← e5]; exact hI_M 598 77 (by decide)
          refine jr.getf (i := 77) (x := v5) (v := .long (Int64.ofInt (v5))) rfl rfl (by decide) rfl (by decide) rfl rfl e5 rfl ?_
          refine jr.putf (i := 77) (x := v5) rfl rfl (by decide) rfl (by decide) rfl rfl rfl rfl rfl ?_
          refine jr.aload_n rfl rfl ?_
          refine jr.dup rfl rfl ?_
          refine jr.getf (i := 73) (x := a0) (v := .int (Int32.ofInt (a0))) rfl rfl (by decide) rfl (by decide) rfl rfl ((ju_i _ _ (by decide)).trans ha0) rfl ?_
          refine jr.iconst rfl ?_
          refine jr.iadd rfl ?_
          refine jr.putf (i := 73) (x := (a0 + 1)) rfl rfl (by decide) rfl (by decide) rfl rfl rfl rfl rfl ?_
          refine jr.goto rfl rfl ?_
          refine jr.pick (ls := [_]) [0] rfl rfl ?_
          exact ih (nM - 1) (by omega) (ju (ju M 598 77 v5) 598 73 (a0 + 1))  (RI.u (RI.u hI_M (a := 598) (i := 77) (show (-9223372036854775808 : Int) ≤ _ ∧ _ ≤ (9223372036854775807 : Int) from by omega)) (a := 598) (i := 73) (show (0 : Int) ≤ _ ∧ _ ≤ (1600 : Int) from by omega)) (RH.o (RH.o hH_M (by decide) (by decide) (by decide)) (by decide) (by decide) (by decide)) (RF.o (RF.o hS_M (by decide) (by decide)) (by decide) (by decide))  (fun a i f598 => ((ju_c _ _ f598).trans ((ju_c _ _ f598).trans (hF_M a i f598)))) (fun i g73 g74 g75 g76 g77 g78 g79 => ((ju_i _ _ g73).trans ((ju_i _ _ g77).trans (hG_M i g73 g74 g75 g76 g77 g78 g79))))  (by rw [(ju_same _ _ _ _), ((ju_i _ _ (by decide)).trans ((ju_i _ _ (by decide)).trans e1))] <;> omega) (by rw [((ju_i _ _ (by decide)).trans ((ju_i _ _ (by decide)).trans e4)), (ju_same _ _ _ _)] <;> omega) (by omega) (Or.inl (by rw [(ju_same _ _ _ _), ((ju_i _ _ (by decide)).trans ((ju_i _ _ (by decide)).trans e4))]; omega)) (by rw [(ju_same _ _ _ _)]; omega)
        · refine jr.aload_n rfl rfl ?_
          obtain ⟨v6, e6⟩ : ∃ z, M 598 77 = z := ⟨_, rfl⟩
          have b6 : (-9223372036854775808) ≤ v6 ∧ v6 ≤ 9223372036854775807 := by rw [← e6]; exact hI_M 598 77 (by decide)
          refine jr.getf (i := 77) (x := v6) (v := .long (Int64.ofInt (v6))) rfl rfl (by decide) rfl (by decide) rfl rfl e6 rfl ?_
          refine jr.iconst rfl ?_
          refine jr.lshl rfl ?_
          have b7 : -9223372036854775808 ≤ jl_shl v6 5 ∧ jl_shl v6 5 ≤ 9223372036854775807 := jbl_any _
          generalize jl_shl v6 5 = v7 at b7 ⊢
          refine jr.aload_n rfl rfl ?_
          refine jr.getf (i := 71) (v := .ref 651) rfl rfl (by decide) rfl (by decide) rfl rfl rfl rfl ?_
          refine jr.aload_n rfl rfl ?_
          refine jr.getf (i := 73) (x := a0) (v := .int (Int32.ofInt (a0))) rfl rfl (by decide) rfl (by decide) rfl rfl ha0 rfl ?_
          refine jr.iald (i := a0) (x := v3) rfl (by decide) rfl (by decide) (by omega) (by omega) e3 ?_
          refine jr.bipush rfl (by decide) ?_
          refine jr.isub rfl ?_
          refine jr.i2l rfl (by omega) ?_
          refine jr.lor rfl ?_
          have b8 : -9223372036854775808 ≤ jl_or v7 (v3 - 96) ∧ jl_or v7 (v3 - 96) ≤ 9223372036854775807 := jbl_any _
          generalize jl_or v7 (v3 - 96) = v8 at b8 ⊢
          refine jr.goto rfl rfl ?_
          refine jr.putf (i := 77) (x := v8) rfl rfl (by decide) rfl (by decide) rfl rfl rfl rfl rfl ?_
          refine jr.aload_n rfl rfl ?_
          refine jr.dup rfl rfl ?_
          refine jr.getf (i := 73) (x := a0) (v := .int (Int32.ofInt (a0))) rfl rfl (by decide) rfl (by decide) rfl rfl ((ju_i _ _ (by decide)).trans ha0) rfl ?_
          refine jr.iconst rfl ?_
          refine jr.iadd rfl ?_
          refine jr.putf (i := 73) (x := (a0 + 1)) rfl rfl (by decide) rfl (by decide) rfl rfl rfl rfl rfl ?_
          refine jr.goto rfl rfl ?_
          refine jr.pick (ls := [_]) [0] rfl rfl ?_
          exact ih (nM - 1) (by omega) (ju (ju M 598 77 v8) 598 73 (a0 + 1))  (RI.u (RI.u hI_M (a := 598) (i := 77) (show (-9223372036854775808 : Int) ≤ _ ∧ _ ≤ (9223372036854775807 : Int) from by omega)) (a := 598) (i := 73) (show (0 : Int) ≤ _ ∧ _ ≤ (1600 : Int) from by omega)) (RH.o (RH.o hH_M (by decide) (by decide) (by decide)) (by decide) (by decide) (by decide)) (RF.o (RF.o hS_M (by decide) (by decide)) (by decide) (by decide))  (fun a i f598 => ((ju_c _ _ f598).trans ((ju_c _ _ f598).trans (hF_M a i f598)))) (fun i g73 g74 g75 g76 g77 g78 g79 => ((ju_i _ _ g73).trans ((ju_i _ _ g77).trans (hG_M i g73 g74 g75 g76 g77 g78 g79))))  (by rw [(ju_same _ _ _ _), ((ju_i _ _ (by decide)).trans ((ju_i _ _ (by decide)).trans e1))] <;> omega) (by rw [((ju_i _ _ (by decide)).trans ((ju_i _ _ (by decide)).trans e4)), (ju_same _ _ _ _)] <;> omega) (by omega) (Or.inl (by rw [(ju_same _ _ _ _), ((ju_i _ _ (by decide)).trans ((ju_i _ _ (by decide)).trans e4))]; omega)) (by rw [(ju_same _ _ _ _)]; omega)
      · refine jr.if_eq rfl rfl (by omega) (fun _ => ?_) (fun h => absurd (by decide) h)
        refine jr.aload_n rfl rfl ?_
        refine jr.aload_n rfl rfl ?_
        refine jr.getf (i := 73) (x := a0) (v := .int (Int32.ofInt (a0))) rfl rfl (by decide) rfl (by decide) rfl rfl ha0 rfl ?_
        refine jr.aload_n rfl rfl ?_
        obtain ⟨v9, e9⟩ : ∃ z, M 598 75 = z := ⟨_, rfl⟩
        have b9 : 0 ≤ v9 ∧ v9 ≤ 1600 := by rw [← e9]; exact hI_M 598 75 (by decide)
        refine jr.getf (i := 75) (x := v9) (v := .int (Int32.ofInt (v9))) rfl rfl (by decide) rfl (by decide) rfl rfl e9 rfl ?_
        refine jr.isub rfl ?_
        refine jr.bipush rfl (by decide) ?_
        refine jr.icmp_le rfl rfl (by omega) (by omega) (fun h200 => ?_) (fun h200 => ?_)
        · refine jr.iconst rfl ?_
          refine jr.putf (i := 74) (x := 1) rfl rfl (by decide) rfl (by decide) rfl rfl rfl rfl rfl ?_
          refine jr.iconst rfl ?_
          refine jr.istore_n (ls' := [_, _]) rfl (by decide) rfl ?_
          refine jr.pick (ls := [_, _]) [0, 1] rfl rfl ?_
          exact r_next_L213 q 69 (ju M 598 74 1) 0 (RI.u hI_M (a := 598) (i := 74) (show (0 : Int) ≤ _ ∧ _ ≤ (4 : Int) from by omega)) (RH.o hH_M (by decide) (by decide) (by decide)) (RF.o hS_M (by decide) (by decide))  (fun a i f598 => ((ju_c _ _ f598).trans (hF_M a i f598))) (fun i g73 g74 g75 g76 g77 g78 g79 => ((ju_i _ _ g74).trans (hG_M i g73 g74 g75 g76 g77 g78 g79))) (by omega) (by rw [((ju_i _ _ (by decide)).trans ha0), ((ju_i _ _ (by decide)).trans e1)] <;> omega) (by rw [((ju_i _ _ (by decide)).trans ha0)] <;> omega) (by omega) (by rw [(ju_same _ _ _ _)] <;> omega) (by omega)
        · refine jr.iconst rfl ?_
          refine jr.goto rfl rfl ?_
          refine jr.putf (i := 74) (x := 4) rfl rfl (by decide) rfl (by decide) rfl rfl rfl rfl rfl ?_
          refine jr.iconst rfl ?_
          refine jr.istore_n (ls' := [_, _]) rfl (by decide) rfl ?_
          refine jr.pick (ls := [_, _]) [0, 1] rfl rfl ?_
          exact r_next_L213 q 69 (ju M 598 74 4) 0 (RI.u hI_M (a := 598) (i := 74) (show (0 : Int) ≤ _ ∧ _ ≤ (4 : Int) from by omega)) (RH.o hH_M (by decide) (by decide) (by decide)) (RF.o hS_M (by decide) (by decide))  (fun a i f598 => ((ju_c _ _ f598).trans (hF_M a i f598))) (fun i g73 g74 g75 g76 g77 g78 g79 => ((ju_i _ _ g74).trans (hG_M i g73 g74 g75 g76 g77 g78 g79))) (by omega) (by rw [((ju_i _ _ (by decide)).trans ha0), ((ju_i _ _ (by decide)).trans e1)] <;> omega) (by rw [((ju_i _ _ (by decide)).trans ha0)] <;> omega) (by omega) (by rw [(ju_same _ _ _ _)] <;> omega) (by omega)
