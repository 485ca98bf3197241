section
theorem r_export_L287_x {A : Nat → Option (Nat × (Nat → Int32))} {Q : Option Value → jm → Prop} {M0 : jm} (q : ∀ (r : Int) (M' : jm), RI M' → RH M' → RF M' → 0 ≤ r ∧ r ≤ 1600 → (M' 599 = (exL (u6x M0) (B6x M0) (M0 599) 24).1 ∧ M' 598 1 = (exL (u6x M0) (B6x M0) (M0 599) 24).2 ∧ r = M' 598 1) → (∀ (a : Nat) (i : Int), a ≠ 598 → a ≠ 599 → M' a i = M0 a i) → (∀ (i : Int), i ≠ 1 → M' 598 i = M0 598 i) → Q (some (.int (Int32.ofInt r))) M') (nO : Nat) (ko : ∀ (M : jm) (f : Int), RI M → RH M → RF M → (∀ (a : Nat) (i : Int), a ≠ 598 → a ≠ 599 → M a i = M0 a i) → (∀ (i : Int), i ≠ 1 → M 598 i = M0 598 i) → 0 ≤ f ∧ f ≤ 24 → 0 ≤ M 598 1 ∧ M 598 1 ≤ 1152 → M 598 1 ≤ 48 * f → (M 599 = (exL (u6x M0) (B6x M0) (M0 599) f.toNat).1 ∧ M 598 1 = (exL (u6x M0) (B6x M0) (M0 599) f.toNat).2) → 24 - f ≤ nO → jr A 2 xm_326 7 [(1, .int (Int32.ofInt (f))), (0, .ref (598))] [] M Q) : ∀ (M : jm) (b : Int) (a : Int) (t : Int) (f : Int) (u : Int) (w : Int), RI M → RH M → RF M → (∀ (a : Nat) (i : Int), a ≠ 598 → a ≠ 599 → M a i = M0 a i) → (∀ (i : Int), i ≠ 1 → M 598 i = M0 598 i) → 0 ≤ b ∧ b ≤ 47 → 0 ≤ a ∧ a ≤ 46 → 0 ≤ t ∧ t ≤ 1104 → 0 ≤ f ∧ f ≤ 23 → 0 ≤ u ∧ u ≤ 1596 → (-9223372036854775808) ≤ w ∧ w ≤ 9223372036854775807 → 24 - (f + 1) ≤ nO → a = 2 * f → b = 2 * f + 1 → t ≤ 48 * f → M 598 1 = t → u = t + 26 → t = (exL (u6x M0) (B6x M0) (M0 599) f.toNat).2 ∧ u6x M0 f ≠ 0 → M 599 = ry1 (ly0 (exL (u6x M0) (B6x M0) (M0 599) f.toNat).1 t (M0 629 f) (M0 638 f + flg6 M0 f)) t (M0 631 (2 * f)) (M0 631 (2 * f + 1)) (M0 635 (2 * f)) (M0 635 (2 * f + 1)) (M0 630 (2 * f)) (M0 630 (2 * f + 1)) → w = l6x M0 (2 * f) → jr A 2 xm_326 287 [(4, .int (Int32.ofInt (b))), (3, .int (Int32.ofInt (a))), (2, .int (Int32.ofInt (t))), (1, .int (Int32.ofInt (f))), (0, .ref (598))] [.long (Int64.ofInt (w)), .int (Int32.ofInt (u)), .ref (598)] M Q := by
    intro M b a t f u w hI_M hH_M hS_M hF_M hG_M h_b h_a h_t h_f h_u h_w hy0 hy1 hy2 hy3 hy4 hy5 hy6 hy7 hy8
    refine jr_v rfl rfl (Or.inl rfl) rfl rfl (by decide) rfl ⟨rfl, Nat.le_of_ble_eq_true rfl, Nat.le_of_ble_eq_true rfl⟩ rfl (jc.deep (r_tapeFour_x hI_M hH_M hS_M  (by omega) (by omega)  (fun M1 hI_M1 hH_M1 hS_M1  w1_0 w1_1 => ?_)) (by decide))
    refine jr.aload_n rfl rfl ?_
    refine jr.iload_n rfl rfl ?_
    refine jr.bipush rfl (by decide) ?_
    refine jr.iadd rfl ?_
    refine jr.aload_n rfl rfl ?_
    refine jr.getf (i := 44) (v := .ref 632) rfl rfl (by decide) rfl (by decide) rfl rfl rfl rfl ?_
    refine jr.iload rfl rfl ?_
    obtain ⟨v2, e2⟩ : ∃ z, M 632 b = z := ⟨_, rfl⟩
    have b2 : 0 ≤ v2 ∧ v2 ≤ 1 := by rw [← e2]; exact (by have q := hI_M 632 b (by decide); rw [xri_row rfl rfl] at q; exact q)
    have e3 : M1 632 b = v2 := ((w1_1 632 b (by decide)).trans e2)
    refine jr.zald (i := b) (x := v2) rfl (by decide) rfl (by decide) (by omega) (by omega) e3 ?_
    refine jr.if_eq rfl rfl (by omega) (fun h302 => ?_) (fun h302 => ?_)
    · refine jr.lconst (x := 0) rfl (by decide) ?_
      obtain ⟨v4, e4⟩ : ∃ z, M 598 1 = z := ⟨_, rfl⟩
      have b4 : 0 ≤ v4 ∧ v4 ≤ 1600 := by rw [← e4]; exact hI_M 598 1 (by decide)
      have e5 : M1 598 1 = v4 := ((w1_1 598 1 (by decide)).trans e4)
      refine jr.pick (ls := [_, _, _, _, _]) [0, 1, 2, 3, 4] rfl rfl ?_
      exact r_export_L317_x q nO ko M1 b a t f (t + 30) 0 hI_M1 hH_M1 hS_M1  (fun a i f598 f599 => ((w1_1 a i f599).trans (hF_M a i f598 f599))) (fun i g1 => ((w1_1 598 i (by decide)).trans (hG_M i g1))) (by omega) (by omega) (by omega) (by omega) (by omega) (by omega) (by omega) (by omega) (by omega) (by omega) ((e5).trans (by omega)) (by omega) hy6 (by rw [w1_0, hy7, ← hy8, hy5]) (by unfold l6x; rw [(show M0 632 (2 * f + 1) = v2 from (by rw [← hy2]; exact (hF_M 632 b (by decide) (by decide)).symm.trans e2))]; first | (rw [if_pos (by omega)]) | (rw [if_neg (by omega)]))
    · have sx302 : (1 : Int) ≤ v2 := by omega
      clear h302
      refine jr.aload_n rfl rfl ?_
      refine jr.getf (i := 45) (v := .ref 633) rfl rfl (by decide) rfl (by decide) rfl rfl rfl rfl ?_
      refine jr.iload rfl rfl ?_
      obtain ⟨v6, e6⟩ : ∃ z, M 633 b = z := ⟨_, rfl⟩
      have b6 : (-2147483648) ≤ v6 ∧ v6 ≤ 2147483647 := by rw [← e6]; exact (by have q := hI_M 633 b (by decide); rw [xri_row rfl rfl] at q; exact q)
      have e7 : M1 633 b = v6 := ((w1_1 633 b (by decide)).trans e6)
      refine jr.iald (i := b) (x := v6) rfl (by decide) rfl (by decide) (by omega) (by omega) e7 ?_
      refine jr.i2l rfl (by omega) ?_
      refine jr.goto rfl rfl ?_
      obtain ⟨v8, e8⟩ : ∃ z, M 598 1 = z := ⟨_, rfl⟩
      have b8 : 0 ≤ v8 ∧ v8 ≤ 1600 := by rw [← e8]; exact hI_M 598 1 (by decide)
      have e9 : M1 598 1 = v8 := ((w1_1 598 1 (by decide)).trans e8)
      refine jr.pick (ls := [_, _, _, _, _]) [0, 1, 2, 3, 4] rfl rfl ?_
      exact r_export_L317_x q nO ko M1 b a t f (t + 30) v6 hI_M1 hH_M1 hS_M1  (fun a i f598 f599 => ((w1_1 a i f599).trans (hF_M a i f598 f599))) (fun i g1 => ((w1_1 598 i (by decide)).trans (hG_M i g1))) (by omega) (by omega) (by omega) (by omega) (by omega) (by omega) (by omega) (by omega) (by omega) (by omega) ((e9).trans (by omega)) (by omega) hy6 (by rw [w1_0, hy7, ← hy8, hy5]) (by unfold l6x; rw [(show M0 632 (2 * f + 1) = v2 from (by rw [← hy2]; exact (hF_M 632 b (by decide) (by decide)).symm.trans e2)), (show M0 633 (2 * f + 1) = v6 from (by rw [← hy2]; exact (hF_M 633 b (by decide) (by decide)).symm.trans e6))]; first | (rw [if_pos (by omega)]) | (rw [if_neg (by omega)]))
end
