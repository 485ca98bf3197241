section
theorem r_export_L317_x {A : Nat → Option (Nat × (Nat → Int32))} {Q : Option Value → jm → Prop} {M0 : jm} (q : ∀ (r : Int) (M' : jm), RI M' → RH M' → RF M' → 0 ≤ r ∧ r ≤ 1600 → (M' 599 = (exL (u6x M0) (B6x M0) (M0 599) 24).1 ∧ M' 598 1 = (exL (u6x M0) (B6x M0) (M0 599) 24).2 ∧ r = M' 598 1) → (∀ (a : Nat) (i : Int), a ≠ 598 → a ≠ 599 → M' a i = M0 a i) → (∀ (i : Int), i ≠ 1 → M' 598 i = M0 598 i) → Q (some (.int (Int32.ofInt r))) M') (nO : Nat) (ko : ∀ (M : jm) (f : Int), RI M → RH M → RF M → (∀ (a : Nat) (i : Int), a ≠ 598 → a ≠ 599 → M a i = M0 a i) → (∀ (i : Int), i ≠ 1 → M 598 i = M0 598 i) → 0 ≤ f ∧ f ≤ 24 → 0 ≤ M 598 1 ∧ M 598 1 ≤ 1152 → M 598 1 ≤ 48 * f → (M 599 = (exL (u6x M0) (B6x M0) (M0 599) f.toNat).1 ∧ M 598 1 = (exL (u6x M0) (B6x M0) (M0 599) f.toNat).2) → 24 - f ≤ nO → jr A 2 xm_326 7 [(1, .int (Int32.ofInt (f))), (0, .ref (598))] [] M Q) : ∀ (M : jm) (b : Int) (a : Int) (t : Int) (f : Int) (u : Int) (w : Int), RI M → RH M → RF M → (∀ (a : Nat) (i : Int), a ≠ 598 → a ≠ 599 → M a i = M0 a i) → (∀ (i : Int), i ≠ 1 → M 598 i = M0 598 i) → 0 ≤ b ∧ b ≤ 47 → 0 ≤ a ∧ a ≤ 46 → 0 ≤ t ∧ t ≤ 1104 → 0 ≤ f ∧ f ≤ 23 → 0 ≤ u ∧ u ≤ 1596 → (-9223372036854775808) ≤ w ∧ w ≤ 9223372036854775807 → 24 - (f + 1) ≤ nO → a = 2 * f → b = 2 * f + 1 → t ≤ 48 * f → M 598 1 = t → u = t + 30 → t = (exL (u6x M0) (B6x M0) (M0 599) f.toNat).2 ∧ u6x M0 f ≠ 0 → M 599 = ptn (ry1 (ly0 (exL (u6x M0) (B6x M0) (M0 599) f.toNat).1 t (M0 629 f) (M0 638 f + flg6 M0 f)) t (M0 631 (2 * f)) (M0 631 (2 * f + 1)) (M0 635 (2 * f)) (M0 635 (2 * f + 1)) (M0 630 (2 * f)) (M0 630 (2 * f + 1))) (t + 26) 4 (l6x M0 (2 * f)) → w = l6x M0 (2 * f + 1) → jr A 2 xm_326 317 [(4, .int (Int32.ofInt (b))), (3, .int (Int32.ofInt (a))), (2, .int (Int32.ofInt (t))), (1, .int (Int32.ofInt (f))), (0, .ref (598))] [.long (Int64.ofInt (w)), .int (Int32.ofInt (u)), .ref (598)] M Q := by
    intro M b a t f u w hI_M hH_M hS_M hF_M hG_M h_b h_a h_t h_f h_u h_w hy0 hy1 hy2 hy3 hy4 hy5 hy6 hy7 hy8
    refine jr_v rfl rfl (Or.inl rfl) rfl rfl (by decide) rfl ⟨rfl, Nat.le_of_ble_eq_true rfl, Nat.le_of_ble_eq_true rfl⟩ rfl (jc.deep (r_tapeFour_x hI_M hH_M hS_M  (by omega) (by omega)  (fun M1 hI_M1 hH_M1 hS_M1  w1_0 w1_1 => ?_)) (by decide))
    refine jr.aload_n rfl rfl ?_
    refine jr.iload_n rfl rfl ?_
    refine jr.bipush rfl (by decide) ?_
    refine jr.iadd rfl ?_
    refine jr.aload_n rfl rfl ?_
    refine jr.getf (i := 51) (v := .ref 639) rfl rfl (by decide) rfl (by decide) rfl rfl rfl rfl ?_
    refine jr.iload_n rfl rfl ?_
    obtain ⟨v2, e2⟩ : ∃ z, M 639 f = z := ⟨_, rfl⟩
    have b2 : (-2147483648) ≤ v2 ∧ v2 ≤ 2147483647 := by rw [← e2]; exact (by have q := hI_M 639 f (by decide); rw [xri_row rfl rfl] at q; exact q)
    have e3 : M1 639 f = v2 := ((w1_1 639 f (by decide)).trans e2)
    refine jr.iald (i := f) (x := v2) rfl (by decide) rfl (by decide) (by omega) (by omega) e3 ?_
    refine jr.aload_n rfl rfl ?_
    obtain ⟨v4, e4⟩ : ∃ z, M 598 2 = z := ⟨_, rfl⟩
    have b4 : 0 ≤ v4 ∧ v4 ≤ 2000000 := by rw [← e4]; exact hI_M 598 2 (by decide)
    have e5 : M1 598 2 = v4 := ((w1_1 598 2 (by decide)).trans e4)
    refine jr.getf (i := 2) (x := v4) (v := .int (Int32.ofInt (v4))) rfl rfl (by decide) rfl (by decide) rfl rfl e5 rfl ?_
    refine jr.isub rfl ?_
    refine jr.iw (j_w (v2 - v4)) (j_w_eq _) ?_
    have b6 : -2147483648 ≤ j_w (v2 - v4) ∧ j_w (v2 - v4) ≤ 2147483647 := jb_any _
    refine jr.i2l rfl (by omega) ?_
    refine jr_v rfl rfl (Or.inl rfl) rfl rfl (by decide) rfl ⟨rfl, Nat.le_of_ble_eq_true rfl, Nat.le_of_ble_eq_true rfl⟩ rfl (jc.deep (r_tapeFour_x hI_M1 hH_M1 hS_M1  (by omega) (by omega)  (fun M7 hI_M7 hH_M7 hS_M7  w7_0 w7_1 => ?_)) (by decide))
    refine jr.aload_n rfl rfl ?_
    refine jr.iload_n rfl rfl ?_
    refine jr.bipush rfl (by decide) ?_
    refine jr.iadd rfl ?_
    refine jr.aload_n rfl rfl ?_
    refine jr.getf (i := 48) (v := .ref 636) rfl rfl (by decide) rfl (by decide) rfl rfl rfl rfl ?_
    refine jr.iload_n rfl rfl ?_
    obtain ⟨v8, e8⟩ : ∃ z, M 636 a = z := ⟨_, rfl⟩
    have b8 : (-9223372036854775808) ≤ v8 ∧ v8 ≤ 9223372036854775807 := by rw [← e8]; exact (by have q := hI_M 636 a (by decide); rw [xri_row rfl rfl] at q; exact q)
    have e9 : M1 636 a = v8 := ((w1_1 636 a (by decide)).trans e8)
    have e10 : M7 636 a = v8 := ((w7_1 636 a (by decide)).trans e9)
    refine jr.lald (i := a) (x := v8) rfl (by decide) rfl (by decide) (by omega) (by omega) e10 ?_
    refine jr.aload_n rfl rfl ?_
    refine jr.getf (i := 48) (v := .ref 636) rfl rfl (by decide) rfl (by decide) rfl rfl rfl rfl ?_
    refine jr.iload rfl rfl ?_
    obtain ⟨v11, e11⟩ : ∃ z, M 636 b = z := ⟨_, rfl⟩
    have b11 : (-9223372036854775808) ≤ v11 ∧ v11 ≤ 9223372036854775807 := by rw [← e11]; exact (by have q := hI_M 636 b (by decide); rw [xri_row rfl rfl] at q; exact q)
    have e12 : M1 636 b = v11 := ((w1_1 636 b (by decide)).trans e11)
    have e13 : M7 636 b = v11 := ((w7_1 636 b (by decide)).trans e12)
    refine jr.lald (i := b) (x := v11) rfl (by decide) rfl (by decide) (by omega) (by omega) e13 ?_
    refine jr.ladd rfl ?_
    refine jr.lw (jl_w (v8 + v11)) (jl_w_eq _) ?_
    have b14 : -9223372036854775808 ≤ jl_w (v8 + v11) ∧ jl_w (v8 + v11) ≤ 9223372036854775807 := jbl_any _
    refine jr_v rfl rfl (Or.inl rfl) rfl rfl (by decide) rfl ⟨rfl, Nat.le_of_ble_eq_true rfl, Nat.le_of_ble_eq_true rfl⟩ rfl (jc.deep (r_tapeFour_x hI_M7 hH_M7 hS_M7  (by omega) (by omega)  (fun M15 hI_M15 hH_M15 hS_M15  w15_0 w15_1 => ?_)) (by decide))
    refine jr.aload_n rfl rfl ?_
    refine jr.iload_n rfl rfl ?_
    refine jr.bipush rfl (by decide) ?_
    refine jr.iadd rfl ?_
    refine jr.aload_n rfl rfl ?_
    refine jr.getf (i := 49) (v := .ref 637) rfl rfl (by decide) rfl (by decide) rfl rfl rfl rfl ?_
    refine jr.iload_n rfl rfl ?_
    obtain ⟨v16, e16⟩ : ∃ z, M 637 a = z := ⟨_, rfl⟩
    have b16 : (-9223372036854775808) ≤ v16 ∧ v16 ≤ 9223372036854775807 := by rw [← e16]; exact (by have q := hI_M 637 a (by decide); rw [xri_row rfl rfl] at q; exact q)
    have e17 : M1 637 a = v16 := ((w1_1 637 a (by decide)).trans e16)
    have e18 : M7 637 a = v16 := ((w7_1 637 a (by decide)).trans e17)
    have e19 : M15 637 a = v16 := ((w15_1 637 a (by decide)).trans e18)
    refine jr.lald (i := a) (x := v16) rfl (by decide) rfl (by decide) (by omega) (by omega) e19 ?_
    refine jr.aload_n rfl rfl ?_
    refine jr.getf (i := 49) (v := .ref 637) rfl rfl (by decide) rfl (by decide) rfl rfl rfl rfl ?_
    refine jr.iload rfl rfl ?_
    obtain ⟨v20, e20⟩ : ∃ z, M 637 b = z := ⟨_, rfl⟩
    have b20 : (-9223372036854775808) ≤ v20 ∧ v20 ≤ 9223372036854775807 := by rw [← e20]; exact (by have q := hI_M 637 b (by decide); rw [xri_row rfl rfl] at q; exact q)
    have e21 : M1 637 b = v20 := ((w1_1 637 b (by decide)).trans e20)
    have e22 : M7 637 b = v20 := ((w7_1 637 b (by decide)).trans e21)
    have e23 : M15 637 b = v20 := ((w15_1 637 b (by decide)).trans e22)
    refine jr.lald (i := b) (x := v20) rfl (by decide) rfl (by decide) (by omega) (by omega) e23 ?_
    refine jr.ladd rfl ?_
    refine jr.lw (jl_w (v16 + v20)) (jl_w_eq _) ?_
    have b24 : -9223372036854775808 ≤ jl_w (v16 + v20) ∧ jl_w (v16 + v20) ≤ 9223372036854775807 := jbl_any _
    refine jr_v rfl rfl (Or.inl rfl) rfl rfl (by decide) rfl ⟨rfl, Nat.le_of_ble_eq_true rfl, Nat.le_of_ble_eq_true rfl⟩ rfl (jc.deep (r_tapeFour_x hI_M15 hH_M15 hS_M15  (by omega) (by omega)  (fun M25 hI_M25 hH_M25 hS_M25  w25_0 w25_1 => ?_)) (by decide))
    refine jr.aload_n rfl rfl ?_
    refine jr.iload_n rfl rfl ?_
    refine jr.bipush rfl (by decide) ?_
    refine jr.iadd rfl ?_
    refine jr.aload_n rfl rfl ?_
    refine jr.iload_n rfl rfl ?_
    refine jr.iload_n rfl rfl ?_
    refine jr.bipush rfl (by decide) ?_
    refine jr.iadd rfl ?_
    refine jr_v rfl rfl (Or.inl rfl) rfl rfl (by decide) rfl ⟨rfl, Nat.le_of_ble_eq_true rfl, Nat.le_of_ble_eq_true rfl⟩ rfl (jc.deep (r_sumOfTape_x hI_M25 hH_M25 hS_M25  (by omega) (by omega) (by omega) (fun r26 z26 w26_0 => ?_)) (by decide))
    refine jr_v rfl rfl (Or.inl rfl) rfl rfl (by decide) rfl ⟨rfl, Nat.le_of_ble_eq_true rfl, Nat.le_of_ble_eq_true rfl⟩ rfl (jc.deep (r_tapeTwo_x hI_M25 hH_M25 hS_M25  (by omega) (by omega)  (fun M27 hI_M27 hH_M27 hS_M27  w27_0 w27_1 => ?_)) (by decide))
    refine jr.aload_n rfl rfl ?_
    refine jr.dup rfl rfl ?_
    obtain ⟨v28, e28⟩ : ∃ z, M 598 1 = z := ⟨_, rfl⟩
    have b28 : 0 ≤ v28 ∧ v28 ≤ 1600 := by rw [← e28]; exact hI_M 598 1 (by decide)
    have e29 : M1 598 1 = v28 := ((w1_1 598 1 (by decide)).trans e28)
    have e30 : M7 598 1 = v28 := ((w7_1 598 1 (by decide)).trans e29)
    have e31 : M15 598 1 = v28 := ((w15_1 598 1 (by decide)).trans e30)
    have e32 : M25 598 1 = v28 := ((w25_1 598 1 (by decide)).trans e31)
    have e33 : M27 598 1 = v28 := ((w27_1 598 1 (by decide)).trans e32)
    refine jr.getf (i := 1) (x := v28) (v := .int (Int32.ofInt (v28))) rfl rfl (by decide) rfl (by decide) rfl rfl e33 rfl ?_
    refine jr.bipush rfl (by decide) ?_
    refine jr.iadd rfl ?_
    refine jr.putf (i := 1) (x := (v28 + 48)) rfl rfl (by decide) rfl (by decide) rfl rfl rfl rfl rfl ?_
    refine jr.iinc (ls' := [_, _, _, _, _]) rfl rfl (by decide) rfl ?_
    refine jr.goto rfl rfl ?_
    refine jr.pick (ls := [_, _]) [0, 4] rfl rfl ?_
    exact ko (ju M27 598 1 (v28 + 48)) (f + 1) (RI.u hI_M27 (a := 598) (i := 1) (show (0 : Int) ≤ _ ∧ _ ≤ (1600 : Int) from by omega)) (RH.o hH_M27 (by decide) (by decide) (by decide)) (RF.o hS_M27 (by decide) (by decide))  (fun a i f598 f599 => ((ju_c _ _ f598).trans ((w27_1 a i f599).trans ((w25_1 a i f599).trans ((w15_1 a i f599).trans ((w7_1 a i f599).trans ((w1_1 a i f599).trans (hF_M a i f598 f599)))))))) (fun i g1 => ((ju_i _ _ g1).trans ((w27_1 598 i (by decide)).trans ((w25_1 598 i (by decide)).trans ((w15_1 598 i (by decide)).trans ((w7_1 598 i (by decide)).trans ((w1_1 598 i (by decide)).trans (hG_M i g1)))))))) (by omega) (by rw [(ju_same _ _ _ _)]; omega) (by rw [(ju_same _ _ _ _)]; omega) (by rw [exL_s (by omega), if_neg hy6.2]; exact ⟨(by show (ju M27 598 1 (v28 + 48)) 599 = rwl (exL (u6x M0) (B6x M0) (M0 599) f.toNat).1 (exL (u6x M0) (B6x M0) (M0 599) f.toNat).2 (B6x M0 f); rw [show (ju M27 598 1 (v28 + 48)) 599 = M27 599 from funext (fun k => ju_c _ _ (by decide)), ← hy6.1]; exact ref_fin (by rw [w25_0, w15_0, w7_0, w1_0, hy7, hy5, (show M0 639 f = v2 from (hF_M 639 f (by decide) (by decide)).symm.trans e2), (show M0 598 2 = v4 from (hG_M 2 (by decide)).symm.trans e4), (show M0 636 (2 * f) = v8 from (by rw [← hy1]; exact (hF_M 636 a (by decide) (by decide)).symm.trans e8)), (show M0 636 (2 * f + 1) = v11 from (by rw [← hy2]; exact (hF_M 636 b (by decide) (by decide)).symm.trans e11)), (show M0 637 (2 * f) = v16 from (by rw [← hy1]; exact (hF_M 637 a (by decide) (by decide)).symm.trans e16)), (show M0 637 (2 * f + 1) = v20 from (by rw [← hy2]; exact (hF_M 637 b (by decide) (by decide)).symm.trans e20)), ← hy8]; rfl) w27_0 w26_0), (by show (ju M27 598 1 (v28 + 48)) 598 1 = (exL (u6x M0) (B6x M0) (M0 599) f.toNat).2 + 48; rw [ju_same, ← hy6.1]; omega)⟩) (by omega)
end
