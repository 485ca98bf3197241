section
/-! ===== the reference: numbers on the tape ===== -/
theorem lay2t {M : jm} {i w a b : Int} (ha : a = bt w 1) (hb : b = bt w 0) : ju (ju M 599 i a) 599 (i + 1) b 599 = ptn (M 599) i 2 w := by
  funext k
  unfold ptn
  by_cases q : k = i + 1
  · subst q
    rw [ju_same, if_pos (by omega), show i + 2 - 1 - (i + 1) = 0 by omega, hb]
  · rw [ju_i _ _ q]
    by_cases q2 : k = i
    · subst q2
      rw [ju_same, if_pos (by omega), show k + 2 - 1 - k = 1 by omega, ha]
    · rw [ju_i _ _ q2, if_neg (by omega)]
theorem r_takenTwo_x {A : Nat → Option (Nat × (Nat → Int32))} {Q : Option Value → jm → Prop} {M : jm} (hI_M : RI M) (hH_M : RH M) (hS_M : RF M) {i : Int} (h_i : 0 ≤ i ∧ i ≤ 1598) (q : ∀ (r : Int), 0 ≤ r ∧ r ≤ 65535 → r = tw (M 599) i → Q (some (.int (Int32.ofInt r))) M) : jc A 1 327 [.ref (598), .int (Int32.ofInt (i))] M Q := by
  refine jc_of (m := xm_327) rfl (Nat.le_of_ble_eq_true rfl) rfl ?_
  refine jr.aload_n rfl rfl ?_
  refine jr.getf (i := 0) (v := .ref 599) rfl rfl (by decide) rfl (by decide) rfl rfl rfl rfl ?_
  refine jr.iload_n rfl rfl ?_
  obtain ⟨v1, e1⟩ : ∃ z, M 599 i = z := ⟨_, rfl⟩
  have b1 : 0 ≤ v1 ∧ v1 ≤ 255 := by rw [← e1]; exact (by have q := hI_M 599 i (by decide); rw [xri_row rfl rfl] at q; exact q)
  refine jr.iald (i := i) (x := v1) rfl (by decide) rfl (by decide) (by omega) (by omega) e1 ?_
  refine jr.bipush rfl (by decide) ?_
  refine jr.ishl rfl ?_
  refine jr.aload_n rfl rfl ?_
  refine jr.getf (i := 0) (v := .ref 599) rfl rfl (by decide) rfl (by decide) rfl rfl rfl rfl ?_
  refine jr.iload_n rfl rfl ?_
  refine jr.iconst rfl ?_
  refine jr.iadd rfl ?_
  obtain ⟨v2, e2⟩ : ∃ z, M 599 (i + 1) = z := ⟨_, rfl⟩
  have b2 : 0 ≤ v2 ∧ v2 ≤ 255 := by rw [← e2]; exact (by have q := hI_M 599 (i + 1) (by decide); rw [xri_row rfl rfl] at q; exact q)
  refine jr.iald (i := (i + 1)) (x := v2) rfl (by decide) rfl (by decide) (by omega) (by omega) e2 ?_
  refine jr.ior rfl ?_
  have b3 : j_or (j_shl v1 8) v2 = v1 * 256 + v2 := j_sho (by omega) (by omega)
  generalize j_or (j_shl v1 8) v2 = v3 at b3 ⊢
  exact jr.ireturn rfl rfl rfl (q _ (by omega) (by unfold tw; omega))
theorem r_takenFour_x {A : Nat → Option (Nat × (Nat → Int32))} {Q : Option Value → jm → Prop} {M : jm} (hI_M : RI M) (hH_M : RH M) (hS_M : RF M) {i : Int} (h_i : 0 ≤ i ∧ i ≤ 1596) (q : ∀ (r : Int), 0 ≤ r ∧ r ≤ 4294967295 → r = nbs (M 599) i 4 → Q (some (.long (Int64.ofInt r))) M) : jc A 2 328 [.ref (598), .int (Int32.ofInt (i))] M Q := by
  refine jc_of (m := xm_328) rfl (Nat.le_of_ble_eq_true rfl) rfl ?_
  refine jr.aload_n rfl rfl ?_
  refine jr.iload_n rfl rfl ?_
  refine jr_v rfl rfl (Or.inl rfl) rfl rfl (by decide) rfl ⟨rfl, Nat.le_of_ble_eq_true rfl, Nat.le_of_ble_eq_true rfl⟩ rfl (jc.deep (r_takenTwo_x hI_M hH_M hS_M  (by omega)  (fun r1 z1 w1_0 => ?_)) (by decide))
  refine jr.i2l rfl (by omega) ?_
  refine jr.bipush rfl (by decide) ?_
  refine jr.lshl rfl ?_
  refine jr.aload_n rfl rfl ?_
  refine jr.iload_n rfl rfl ?_
  refine jr.iconst rfl ?_
  refine jr.iadd rfl ?_
  refine jr_v rfl rfl (Or.inl rfl) rfl rfl (by decide) rfl ⟨rfl, Nat.le_of_ble_eq_true rfl, Nat.le_of_ble_eq_true rfl⟩ rfl (jc.deep (r_takenTwo_x hI_M hH_M hS_M  (by omega)  (fun r2 z2 w2_0 => ?_)) (by decide))
  refine jr.i2l rfl (by omega) ?_
  refine jr.lor rfl ?_
  have b3 : jl_or (jl_shl r1 16) r2 = r1 * 65536 + r2 := jl_sho16 (by omega) (by omega)
  generalize jl_or (jl_shl r1 16) r2 = v3 at b3 ⊢
  exact jr.lreturn rfl rfl (q _ (by omega) (by rw [nbs_4t]; omega))
theorem r_takenEight_x {A : Nat → Option (Nat × (Nat → Int32))} {Q : Option Value → jm → Prop} {M : jm} (hI_M : RI M) (hH_M : RH M) (hS_M : RF M) {i : Int} (h_i : 0 ≤ i ∧ i ≤ 1592) (q : ∀ (r : Int), (-9223372036854775808) ≤ r ∧ r ≤ 9223372036854775807 → r = jl_w (nbs (M 599) i 8) → Q (some (.long (Int64.ofInt r))) M) : jc A 3 329 [.ref (598), .int (Int32.ofInt (i))] M Q := by
  refine jc_of (m := xm_329) rfl (Nat.le_of_ble_eq_true rfl) rfl ?_
  refine jr.aload_n rfl rfl ?_
  refine jr.iload_n rfl rfl ?_
  refine jr_v rfl rfl (Or.inl rfl) rfl rfl (by decide) rfl ⟨rfl, Nat.le_of_ble_eq_true rfl, Nat.le_of_ble_eq_true rfl⟩ rfl (jc.deep (r_takenFour_x hI_M hH_M hS_M  (by omega)  (fun r1 z1 w1_0 => ?_)) (by decide))
  refine jr.bipush rfl (by decide) ?_
  refine jr.lshl rfl ?_
  refine jr.aload_n rfl rfl ?_
  refine jr.iload_n rfl rfl ?_
  refine jr.iconst rfl ?_
  refine jr.iadd rfl ?_
  refine jr_v rfl rfl (Or.inl rfl) rfl rfl (by decide) rfl ⟨rfl, Nat.le_of_ble_eq_true rfl, Nat.le_of_ble_eq_true rfl⟩ rfl (jc.deep (r_takenFour_x hI_M hH_M hS_M  (by omega)  (fun r2 z2 w2_0 => ?_)) (by decide))
  refine jr.lor rfl ?_
  have b3 : jl_or (jl_shl r1 32) r2 = jl_w (r1 * 4294967296 + r2) ∧ -9223372036854775808 ≤ jl_or (jl_shl r1 32) r2 ∧ jl_or (jl_shl r1 32) r2 ≤ 9223372036854775807 := ⟨jl_sho32 (by omega), jbl_any _⟩
  generalize jl_or (jl_shl r1 32) r2 = v3 at b3 ⊢
  exact jr.lreturn rfl rfl (q _ (by omega) (by rw [nbs_8, ← w1_0, ← w2_0]; omega))
theorem r_tapeTwo_x {A : Nat → Option (Nat × (Nat → Int32))} {Q : Option Value → jm → Prop} {M : jm} (hI_M : RI M) (hH_M : RH M) (hS_M : RF M) {i : Int} (h_i : 0 ≤ i ∧ i ≤ 1598) {w : Int} (h_w : (-2147483648) ≤ w ∧ w ≤ 2147483647) (q : ∀ (M' : jm), RI M' → RH M' → RF M' → M' 599 = ptn (M 599) i 2 w → (∀ (a : Nat) (i : Int), a ≠ 599 → M' a i = M a i) → Q none M') : jc A 1 324 [.ref (598), .int (Int32.ofInt (i)), .int (Int32.ofInt (w))] M Q := by
  refine jc_of (m := xm_324) rfl (Nat.le_of_ble_eq_true rfl) rfl ?_
  refine jr.aload_n rfl rfl ?_
  refine jr.getf (i := 0) (v := .ref 599) rfl rfl (by decide) rfl (by decide) rfl rfl rfl rfl ?_
  refine jr.iload_n rfl rfl ?_
  refine jr.iload_n rfl rfl ?_
  refine jr.bipush rfl (by decide) ?_
  refine jr.ishr rfl ?_
  have b1 : j_shr w 8 = w / 256 := j_shr_ex 8 (by decide) (by omega) (by omega)
  generalize j_shr w 8 = v1 at b1 ⊢
  refine jr.sipush rfl (by decide) ?_
  refine jr.iand rfl ?_
  have b2 : j_and v1 255 = v1 % 256 := j_and_m 8 (by decide) _
  generalize j_and v1 255 = v2 at b2 ⊢
  refine jr.iast (i := i) (x := v2) rfl (by decide) rfl (by decide) (by omega) (by omega) ?_
  refine jr.aload_n rfl rfl ?_
  refine jr.getf (i := 0) (v := .ref 599) rfl rfl (by decide) rfl (by decide) rfl rfl rfl rfl ?_
  refine jr.iload_n rfl rfl ?_
  refine jr.iconst rfl ?_
  refine jr.iadd rfl ?_
  refine jr.iload_n rfl rfl ?_
  refine jr.sipush rfl (by decide) ?_
  refine jr.iand rfl ?_
  have b3 : j_and w 255 = w % 256 := j_and_m 8 (by decide) _
  generalize j_and w 255 = v3 at b3 ⊢
  refine jr.iast (i := (i + 1)) (x := v3) rfl (by decide) rfl (by decide) (by omega) (by omega) ?_
  exact jr.vreturn rfl rfl (q _ (RI.u (RI.u hI_M (a := 599) (i := i) (by rw [xri_row rfl rfl]; show (0 : Int) ≤ _ ∧ _ ≤ (255 : Int); omega)) (a := 599) (i := (i + 1)) (by rw [xri_row rfl rfl]; show (0 : Int) ≤ _ ∧ _ ≤ (255 : Int); omega)) (RH.o (RH.o hH_M (by decide) (by decide) (by decide)) (by decide) (by decide) (by decide)) (RF.o (RF.o hS_M (by decide) (by decide)) (by decide) (by decide))  (by exact lay2t (by show _ = w / 256 % 256; omega) (by show _ = w % 256; omega)) (fun a i f599 => ((ju_c _ _ f599).trans ((ju_c _ _ f599).trans rfl))))
end

