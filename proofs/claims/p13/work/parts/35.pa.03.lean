theorem r_next_L266 {A : Nat → Option (Nat × (Nat → Int32))} {Q : Option Value → jm → Prop} {M0 : jm} (q : ∀ (M' : jm), RI M' → RH M' → RF M' → M' 598 73 ≤ M' 598 72 → M0 598 73 ≤ M' 598 73 → TK M' ≤ TK M0 → (M0 598 74 ≠ 0 → TK M' < TK M0) → (M' 598 74 = 3 → M' 598 79 ≠ 10 ∧ M' 598 79 ≠ 11) → (∀ (a : Nat) (i : Int), a ≠ 598 → M' a i = M0 a i) → (∀ (i : Int), i ≠ 73 → i ≠ 74 → i ≠ 75 → i ≠ 76 → i ≠ 77 → i ≠ 78 → i ≠ 79 → M' 598 i = M0 598 i) → Q none M') : ∀ (nM : Nat) (M : jm) , RI M → RH M → RF M → (∀ (a : Nat) (i : Int), a ≠ 598 → M a i = M0 a i) → (∀ (i : Int), i ≠ 73 → i ≠ 74 → i ≠ 75 → i ≠ 76 → i ≠ 77 → i ≠ 78 → i ≠ 79 → M 598 i = M0 598 i) → M 598 73 ≤ M 598 72 → M0 598 73 ≤ M 598 75 ∧ M 598 75 ≤ M 598 73 → 0 ≤ M0 598 74 → (M 598 75 < M 598 73 ∨ (M 598 73 < M 598 72 ∧ 48 ≤ M 651 (M 598 73) ∧ M 651 (M 598 73) ≤ 57)) → 1600 - M 598 73 ≤ nM → jr A 1 xm_344 266 [(0, .ref (598))] [] M Q := by
  intro nM
  induction nM using Nat.strongRecOn with
  | ind nM ih =>
    intro M  hI_M hH_M hS_M hF_M hG_M  hy0 hy1 hy2 hy3 hm
    obtain ⟨a0, ha0⟩ : ∃ z, M 598 73 = z := ⟨_, rfl⟩
    rw [ha0] at hy3
    have ba : (0 : Int) ≤ a0 ∧ a0 ≤ 1600 := by rw [← ha0]; exact hI_M 598 73 (by decide)
    refine jr.aload_n rfl rfl ?_
    refine jr.getf (i := 73) (x := a0) (v := .int (Int32.ofInt (a0))) rfl rfl (by decide) rfl (by decide) rfl rfl ha0 rfl ?_
    refine jr.aload_n rfl rfl ?_
    obtain ⟨v1, e1⟩ : ∃ z, M 598 72 = z := ⟨_, rfl⟩
    have b1 : 0 ≤ v1 ∧ v1 ≤ 1600 := by rw [← e1]; exact hI_M 598 72 (by decide)
    refine jr.getf (i := 72) (x := v1) (v := .int (Int32.ofInt (v1))) rfl rfl (by decide) rfl (by decide) rfl rfl e1 rfl ?_
    refine jr.icmp_ge rfl rfl (by omega) (by omega) (fun h274 => ?_) (fun h274 => ?_)
    · refine jr.aload_n rfl rfl ?_
      refine jr.aload_n rfl rfl ?_
      refine jr.getf (i := 73) (x := a0) (v := .int (Int32.ofInt (a0))) rfl rfl (by decide) rfl (by decide) rfl rfl ha0 rfl ?_
      refine jr.aload_n rfl rfl ?_
      obtain ⟨v2, e2⟩ : ∃ z, M 598 75 = z := ⟨_, rfl⟩
      have b2 : 0 ≤ v2 ∧ v2 ≤ 1600 := by rw [← e2]; exact hI_M 598 75 (by decide)
      refine jr.getf (i := 75) (x := v2) (v := .int (Int32.ofInt (v2))) rfl rfl (by decide) rfl (by decide) rfl rfl e2 rfl ?_
      refine jr.isub rfl ?_
      refine jr.bipush rfl (by decide) ?_
      refine jr.icmp_le rfl rfl (by omega) (by omega) (fun h365 => ?_) (fun h365 => ?_)
      · refine jr.iconst rfl ?_
        refine jr.putf (i := 74) (x := 2) rfl rfl (by decide) rfl (by decide) rfl rfl rfl rfl rfl ?_
        refine jr.goto rfl rfl ?_
        have y3 : (ju M 598 74 2) 598 72 = v1 := ((ju_i _ _ (by decide)).trans e1)
        have y4 : (ju M 598 74 2) 598 73 = a0 := ((ju_i _ _ (by decide)).trans ha0)
        have y5 : (ju M 598 74 2) 598 74 = 2 := (ju_same _ _ _ _)
        obtain ⟨v6, e6⟩ : ∃ z, M 598 79 = z := ⟨_, rfl⟩
        have b6 : 0 ≤ v6 ∧ v6 ≤ 255 := by rw [← e6]; exact hI_M 598 79 (by decide)
        have y7 : (ju M 598 74 2) 598 79 = v6 := ((ju_i _ _ (by decide)).trans e6)
        exact jr.vreturn rfl rfl (q _ (RI.u hI_M (a := 598) (i := 74) (show (0 : Int) ≤ _ ∧ _ ≤ (4 : Int) from by omega)) (RH.o hH_M (by decide) (by decide) (by decide)) (RF.o hS_M (by decide) (by decide))  (by omega) (by omega) (by unfold TK; omega) (fun q => by unfold TK; omega) (by omega) (fun a i f598 => ((ju_c _ _ f598).trans (hF_M a i f598))) (fun i g73 g74 g75 g76 g77 g78 g79 => ((ju_i _ _ g74).trans (hG_M i g73 g74 g75 g76 g77 g78 g79))))
      · refine jr.iconst rfl ?_
        refine jr.goto rfl rfl ?_
        refine jr.putf (i := 74) (x := 4) rfl rfl (by decide) rfl (by decide) rfl rfl rfl rfl rfl ?_
        refine jr.goto rfl rfl ?_
        have y8 : (ju M 598 74 4) 598 72 = v1 := ((ju_i _ _ (by decide)).trans e1)
        have y9 : (ju M 598 74 4) 598 73 = a0 := ((ju_i _ _ (by decide)).trans ha0)
        have y10 : (ju M 598 74 4) 598 74 = 4 := (ju_same _ _ _ _)
        obtain ⟨v11, e11⟩ : ∃ z, M 598 79 = z := ⟨_, rfl⟩
        have b11 : 0 ≤ v11 ∧ v11 ≤ 255 := by rw [← e11]; exact hI_M 598 79 (by decide)
        have y12 : (ju M 598 74 4) 598 79 = v11 := ((ju_i _ _ (by decide)).trans e11)
        exact jr.vreturn rfl rfl (q _ (RI.u hI_M (a := 598) (i := 74) (show (0 : Int) ≤ _ ∧ _ ≤ (4 : Int) from by omega)) (RH.o hH_M (by decide) (by decide) (by decide)) (RF.o hS_M (by decide) (by decide))  (by omega) (by omega) (by unfold TK; omega) (fun q => by unfold TK; omega) (by omega) (fun a i f598 => ((ju_c _ _ f598).trans (hF_M a i f598))) (fun i g73 g74 g75 g76 g77 g78 g79 => ((ju_i _ _ g74).trans (hG_M i g73 g74 g75 g76 g77 g78 g79))))
    · refine jr.aload_n rfl rfl ?_
      refine jr.getf (i := 71) (v := .ref 651) rfl rfl (by decide) rfl (by decide) rfl rfl rfl rfl ?_
      refine jr.aload_n rfl rfl ?_
      refine jr.getf (i := 73) (x := a0) (v := .int (Int32.ofInt (a0))) rfl rfl (by decide) rfl (by decide) rfl rfl ha0 rfl ?_
      obtain ⟨v13, e13⟩ : ∃ z, M 651 a0 = z := ⟨_, rfl⟩
      have b13 : 0 ≤ v13 ∧ v13 ≤ 255 := by rw [← e13]; exact (by have q := hI_M 651 a0 (by decide); rw [xri_row rfl rfl] at q; exact q)
      refine jr.iald (i := a0) (x := v13) rfl (by decide) rfl (by decide) (by omega) (by omega) e13 ?_
      refine jr_s rfl rfl (Or.inl rfl) ⟨Nat.le_of_ble_eq_true rfl, Nat.le_of_ble_eq_true rfl⟩ rfl rfl (jc.deep (c_isDigit  (by omega) (fun t286_0 t286_1 => ?_) (fun f286_0 => ?_)) (by decide))
      · refine jr.if_eq rfl rfl (by omega) (fun h => absurd h (by decide)) (fun _ => ?_)
        refine jr.aload_n rfl rfl ?_
        refine jr.aload_n rfl rfl ?_
        refine jr.getf (i := 73) (x := a0) (v := .int (Int32.ofInt (a0))) rfl rfl (by decide) rfl (by decide) rfl rfl ha0 rfl ?_
        refine jr.aload_n rfl rfl ?_
        obtain ⟨v14, e14⟩ : ∃ z, M 598 75 = z := ⟨_, rfl⟩
        have b14 : 0 ≤ v14 ∧ v14 ≤ 1600 := by rw [← e14]; exact hI_M 598 75 (by decide)
        refine jr.getf (i := 75) (x := v14) (v := .int (Int32.ofInt (v14))) rfl rfl (by decide) rfl (by decide) rfl rfl e14 rfl ?_
        refine jr.isub rfl ?_
        refine jr.bipush rfl (by decide) ?_
        refine jr.icmp_ge rfl rfl (by omega) (by omega) (fun h304 => ?_) (fun h304 => ?_)
        · refine jr.aload_n rfl rfl ?_
          obtain ⟨v15, e15⟩ : ∃ z, M 598 78 = z := ⟨_, rfl⟩
          have b15 : (-9223372036854775808) ≤ v15 ∧ v15 ≤ 9223372036854775807 := by rw [← e15]; exact hI_M 598 78 (by decide)
          refine jr.getf (i := 78) (x := v15) (v := .long (Int64.ofInt (v15))) rfl rfl (by decide) rfl (by decide) rfl rfl e15 rfl ?_
          refine jr.putf (i := 78) (x := v15) rfl rfl (by decide) rfl (by decide) rfl rfl rfl rfl rfl ?_
          refine jr.aload_n rfl rfl ?_
          refine jr.dup rfl rfl ?_
          refine jr.getf (i := 73) (x := a0) (v := .int (Int32.ofInt (a0))) rfl rfl (by decide) rfl (by decide) rfl rfl ((ju_i _ _ (by decide)).trans ha0) rfl ?_
          refine jr.iconst rfl ?_
          refine jr.iadd rfl ?_
          refine jr.putf (i := 73) (x := (a0 + 1)) rfl rfl (by decide) rfl (by decide) rfl rfl rfl rfl rfl ?_
          refine jr.goto rfl rfl ?_
          refine jr.pick (ls := [_]) [0] rfl rfl ?_
          exact ih (nM - 1) (by omega) (ju (ju M 598 78 v15) 598 73 (a0 + 1))  (RI.u (RI.u hI_M (a := 598) (i := 78) (show (-9223372036854775808 : Int) ≤ _ ∧ _ ≤ (9223372036854775807 : Int) from by omega)) (a := 598) (i := 73) (show (0 : Int) ≤ _ ∧ _ ≤ (1600 : Int) from by omega)) (RH.o (RH.o hH_M (by decide) (by decide) (by decide)) (by decide) (by decide) (by decide)) (RF.o (RF.o hS_M (by decide) (by decide)) (by decide) (by decide))  (fun a i f598 => ((ju_c _ _ f598).trans ((ju_c _ _ f598).trans (hF_M a i f598)))) (fun i g73 g74 g75 g76 g77 g78 g79 => ((ju_i _ _ g73).trans ((ju_i _ _ g78).trans (hG_M i g73 g74 g75 g76 g77 g78 g79))))  (by rw [(ju_same _ _ _ _), ((ju_i _ _ (by decide)).trans ((ju_i _ _ (by decide)).trans e1))] <;> omega) (by rw [((ju_i _ _ (by decide)).trans ((ju_i _ _ (by decide)).trans e14)), (ju_same _ _ _ _)] <;> omega) (by omega) (Or.inl (by rw [(ju_same _ _ _ _), ((ju_i _ _ (by decide)).trans ((ju_i _ _ (by decide)).trans e14))]; omega)) (by rw [(ju_same _ _ _ _)]; omega)
        · refine jr.ldc2 (x := 10) rfl rfl (by decide) ?_
          refine jr.aload_n rfl rfl ?_
          obtain ⟨v16, e16⟩ : ∃ z, M 598 78 = z := ⟨_, rfl⟩
          have b16 : (-9223372036854775808) ≤ v16 ∧ v16 ≤ 9223372036854775807 := by rw [← e16]; exact hI_M 598 78 (by decide)
          refine jr.getf (i := 78) (x := v16) (v := .long (Int64.ofInt (v16))) rfl rfl (by decide) rfl (by decide) rfl rfl e16 rfl ?_
          refine jr.lmul rfl ?_
          refine jr.lw (jl_w (10 * v16)) (jl_w_eq _) ?_
          have b17 : -9223372036854775808 ≤ jl_w (10 * v16) ∧ jl_w (10 * v16) ≤ 9223372036854775807 := jbl_any _
          generalize jl_w (10 * v16) = v17 at b17 ⊢
          refine jr.aload_n rfl rfl ?_
          refine jr.getf (i := 71) (v := .ref 651) rfl rfl (by decide) rfl (by decide) rfl rfl rfl rfl ?_
          refine jr.aload_n rfl rfl ?_
          refine jr.getf (i := 73) (x := a0) (v := .int (Int32.ofInt (a0))) rfl rfl (by decide) rfl (by decide) rfl rfl ha0 rfl ?_
          refine jr.iald (i := a0) (x := v13) rfl (by decide) rfl (by decide) (by omega) (by omega) e13 ?_
          refine jr.i2l rfl (by omega) ?_
          refine jr.ladd rfl ?_
          refine jr.lw (jl_w (v17 + v13)) (jl_w_eq _) ?_
          have b18 : -9223372036854775808 ≤ jl_w (v17 + v13) ∧ jl_w (v17 + v13) ≤ 9223372036854775807 := jbl_any _
          generalize jl_w (v17 + v13) = v18 at b18 ⊢
          refine jr.ldc2 (x := 48) rfl rfl (by decide) ?_
          refine jr.lsub rfl ?_
          refine jr.lw (jl_w (v18 - 48)) (jl_w_eq _) ?_
          have b19 : -9223372036854775808 ≤ jl_w (v18 - 48) ∧ jl_w (v18 - 48) ≤ 9223372036854775807 := jbl_any _
          generalize jl_w (v18 - 48) = v19 at b19 ⊢
          refine jr.goto rfl rfl ?_
          refine jr.putf (i := 78) (x := v19) rfl rfl (by decide) rfl (by decide) rfl rfl rfl rfl rfl ?_
          refine jr.aload_n rfl rfl ?_
          refine jr.dup rfl rfl ?_
          refine jr.getf (i := 73) (x := a0) (v := .int (Int32.ofInt (a0))) rfl rfl (by decide) rfl (by decide) rfl rfl ((ju_i _ _ (by decide)).trans ha0) rfl ?_
          refine jr.iconst rfl ?_
          refine jr.iadd rfl ?_
          refine jr.putf (i := 73) (x := (a0 + 1)) rfl rfl (by decide) rfl (by decide) rfl rfl rfl rfl rfl ?_
          refine jr.goto rfl rfl ?_
          refine jr.pick (ls := [_]) [0] rfl rfl ?_
          exact ih (nM - 1) (by omega) (ju (ju M 598 78 v19) 598 73 (a0 + 1))  (RI.u (RI.u hI_M (a := 598) (i := 78) (show (-9223372036854775808 : Int) ≤ _ ∧ _ ≤ (9223372036854775807 : Int) from by omega)) (a := 598) (i := 73) (show (0 : Int) ≤ _ ∧ _ ≤ (1600 : Int) from by omega)) (RH.o (RH.o hH_M (by decide) (by decide) (by decide)) (by decide) (by decide) (by decide)) (RF.o (RF.o hS_M (by decide) (by decide)) (by decide) (by decide))  (fun a i f598 => ((ju_c _ _ f598).trans ((ju_c _ _ f598).trans (hF_M a i f598)))) (fun i g73 g74 g75 g76 g77 g78 g79 => ((ju_i _ _ g73).trans ((ju_i _ _ g78).trans (hG_M i g73 g74 g75 g76 g77 g78 g79))))  (by rw [(ju_same _ _ _ _), ((ju_i _ _ (by decide)).trans ((ju_i _ _ (by decide)).trans e1))] <;> omega) (by rw [((ju_i _ _ (by decide)).trans ((ju_i _ _ (by decide)).trans e14)), (ju_same _ _ _ _)] <;> omega) (by omega) (Or.inl (by rw [(ju_same _ _ _ _), ((ju_i _ _ (by decide)).trans ((ju_i _ _ (by decide)).trans e14))]; omega)) (by rw [(ju_same _ _ _ _)]; omega)
      · refine jr.if_eq rfl rfl (by omega) (fun _ => ?_) (fun h => absurd (by decide) h)
        refine jr.aload_n rfl rfl ?_
        refine jr.aload_n rfl rfl ?_
        refine jr.getf (i := 73) (x := a0) (v := .int (Int32.ofInt (a0))) rfl rfl (by decide) rfl (by decide) rfl rfl ha0 rfl ?_
        refine jr.aload_n rfl rfl ?_
        obtain ⟨v20, e20⟩ : ∃ z, M 598 75 = z := ⟨_, rfl⟩
        have b20 : 0 ≤ v20 ∧ v20 ≤ 1600 := by rw [← e20]; exact hI_M 598 75 (by decide)
        refine jr.getf (i := 75) (x := v20) (v := .int (Int32.ofInt (v20))) rfl rfl (by decide) rfl (by decide) rfl rfl e20 rfl ?_
        refine jr.isub rfl ?_
        refine jr.bipush rfl (by decide) ?_
        refine jr.icmp_le rfl rfl (by omega) (by omega) (fun h365 => ?_) (fun h365 => ?_)
        · refine jr.iconst rfl ?_
          refine jr.putf (i := 74) (x := 2) rfl rfl (by decide) rfl (by decide) rfl rfl rfl rfl rfl ?_
          refine jr.goto rfl rfl ?_
          have y21 : (ju M 598 74 2) 598 72 = v1 := ((ju_i _ _ (by decide)).trans e1)
          have y22 : (ju M 598 74 2) 598 73 = a0 := ((ju_i _ _ (by decide)).trans ha0)
          have y23 : (ju M 598 74 2) 598 74 = 2 := (ju_same _ _ _ _)
          obtain ⟨v24, e24⟩ : ∃ z, M 598 79 = z := ⟨_, rfl⟩
          have b24 : 0 ≤ v24 ∧ v24 ≤ 255 := by rw [← e24]; exact hI_M 598 79 (by decide)
          have y25 : (ju M 598 74 2) 598 79 = v24 := ((ju_i _ _ (by decide)).trans e24)
          exact jr.vreturn rfl rfl (q _ (RI.u hI_M (a := 598) (i := 74) (show (0 : Int) ≤ _ ∧ _ ≤ (4 : Int) from by omega)) (RH.o hH_M (by decide) (by decide) (by decide)) (RF.o hS_M (by decide) (by decide))  (by omega) (by omega) (by unfold TK; omega) (fun q => by unfold TK; omega) (by omega) (fun a i f598 => ((ju_c _ _ f598).trans (hF_M a i f598))) (fun i g73 g74 g75 g76 g77 g78 g79 => ((ju_i _ _ g74).trans (hG_M i g73 g74 g75 g76 g77 g78 g79))))
        · refine jr.iconst rfl ?_
          refine jr.goto rfl rfl ?_
          refine jr.putf (i := 74) (x := 4) rfl rfl (by decide) rfl (by decide) rfl rfl rfl rfl rfl ?_
          refine jr.goto rfl rfl ?_
          have y26 : (ju M 598 74 4) 598 72 = v1 := ((ju_i _ _ (by decide)).trans e1)
          have y27 : (ju M 598 74 4) 598 73 = a0 := ((ju_i _ _ (by decide)).trans ha0)
          have y28 : (ju M 598 74 4) 598 74 = 4 := (ju_same _ _ _ _)
          obtain ⟨v29, e29⟩ : ∃ z, M 598 79 = z := ⟨_, rfl⟩
          have b29 : 0 ≤ v29 ∧ v29 ≤ 255 := by rw [← e29]; exact hI_M 598 79 (by decide)
          have y30 : (ju M 598 74 4) 598 79 = v29 := ((ju_i _ _ (by decide)).trans e29)
          exact jr.vreturn rfl rfl (q _ (RI.u hI_M (a := 598) (i := 74) (show (0 : Int) ≤ _ ∧ _ ≤ (4 : Int) from by omega)) (RH.o hH_M (by decide) (by decide) (by decide)) (RF.o hS_M (by decide) (by decide))  (by omega) (by omega) (by unfold TK; omega) (fun q => by unfold TK; omega) (by omega) (fun a i f598 => ((ju_c _ _ f598).trans (hF_M a i f598))) (fun i g73 g74 g75 g76 g77 g78 g79 => ((ju_i _ _ g74).trans (hG_M i g73 g74 g75 g76 g77 g78 g79))))
