section
/-! ===== the reference: exact effects on tape and packets ===== -/
theorem bt_rg {n k j : Int} (h : k = 0 ∨ k = 8 ∨ k = 16 ∨ k = 24) (hj : k / 8 = j) : j_and (j_ushr n k) 255 = bt n j ∧ 0 ≤ j_and (j_ushr n k) 255 ∧ j_and (j_ushr n k) 255 ≤ 255 := by
  subst hj
  rw [bt_rf h]
  exact ⟨rfl, bt_r _ _⟩
theorem t4_4 {f : Int → Int} {S v : Int} (g : Int → Int) (h0 : g S = bt v 3) (h1 : g (S + 1) = bt v 2) (h2 : g (S + 2) = bt v 1) (h3 : g (S + 3) = bt v 0) (ho : ∀ k : Int, ¬ (S ≤ k ∧ k < S + 4) → g k = f k) : g = t4 f S v := by
  funext k
  unfold t4
  by_cases q : S ≤ k ∧ k < S + 4
  · rw [if_pos q]
    rcases (show k = S ∨ k = S + 1 ∨ k = S + 2 ∨ k = S + 3 by omega) with rfl | rfl | rfl | rfl
    · rw [h0, show k + 3 - k = 3 by omega]
    · rw [h1, show S + 3 - (S + 1) = 2 by omega]
    · rw [h2, show S + 3 - (S + 2) = 1 by omega]
    · rw [h3, show S + 3 - (S + 3) = 0 by omega]
  · rw [if_neg q]
    exact ho k q
theorem r_putWord_x {A : Nat → Option (Nat × (Nat → Int32))} {Q : Option Value → jm → Prop} {M : jm} (hI_M : RI M) (hH_M : RH M) (hS_M : RF M) {x : Int} (h_x : (-2147483648) ≤ x ∧ x ≤ 2147483647) (p0 : M 598 1 ≤ 1596) (q : ∀ (M' : jm), RI M' → RH M' → RF M' → M' 599 = t4 (M 599) (M 598 1) x → M' 598 1 = M 598 1 + 4 → (∀ (a : Nat) (i : Int), a ≠ 598 → a ≠ 599 → M' a i = M a i) → (∀ (i : Int), i ≠ 1 → M' 598 i = M 598 i) → Q none M') : jc A 1 243 [.ref (598), .int (Int32.ofInt (x))] M Q := by
  refine jc_of (m := xm_243) rfl (Nat.le_of_ble_eq_true rfl) rfl ?_
  refine jr.bipush rfl (jbp _ (nlt rfl)) ?_
  refine jr.istore_n (ls' := [_, _, _]) rfl (nlt rfl) rfl ?_
  refine jr.iload_n rfl rfl ?_
  refine jr.if_lt rfl rfl (by first | exact rgl rfl | omega) (fun h => absurd h (by decide)) (fun _ => ?_)
  refine jr.aload_n rfl rfl ?_
  refine jr.getf (i := 0) (v := .ref 599) rfl rfl (nlt rfl) rfl (nlt rfl) rfl rfl rfl rfl ?_
  refine jr.aload_n rfl rfl ?_
  obtain ⟨v1, e1⟩ : ∃ z, M 598 1 = z := ⟨_, rfl⟩
  have b1 : 0 ≤ v1 ∧ v1 ≤ 1600 := by rw [← e1]; exact hI_M 598 1 (Nat.le_of_ble_eq_true rfl)
  refine jr.getf (i := 1) (x := v1) (v := .int (Int32.ofInt (v1))) rfl rfl (nlt rfl) rfl (nlt rfl) rfl rfl e1 rfl ?_
  refine jr.iload_n rfl rfl ?_
  refine jr.iload_n rfl rfl ?_
  refine jr.iushr rfl ?_
  refine jr.sipush rfl (by decide) ?_
  refine jr.iand rfl ?_
  have b2 : j_and (j_ushr x 24) 255 = bt x 3 ∧ 0 ≤ j_and (j_ushr x 24) 255 ∧ j_and (j_ushr x 24) 255 ≤ 255 := bt_rg (by omega) (by omega)
  generalize j_and (j_ushr x 24) 255 = v2 at b2 ⊢
  refine jr.iast (i := v1) (x := v2) rfl (nlt rfl) rfl (Nat.le_of_ble_eq_true rfl) (by omega) (by omega) ?_
  refine jr.aload_n rfl rfl ?_
  refine jr.dup rfl rfl ?_
  refine jr.getf (i := 1) (x := v1) (v := .int (Int32.ofInt (v1))) rfl rfl (nlt rfl) rfl (nlt rfl) rfl rfl ((ju_c _ _ (by decide)).trans e1) rfl ?_
  refine jr.iconst rfl ?_
  refine jr.iadd rfl ?_
  refine jr.putf (i := 1) (x := (v1 + 1)) rfl rfl (nlt rfl) rfl (nlt rfl) rfl rfl rfl rfl rfl ?_
  refine jr.iinc (ls' := [_, _, _]) rfl rfl (nlt rfl) rfl ?_
  refine jr.goto rfl rfl ?_
  refine jr.iload_n rfl rfl ?_
  refine jr.if_lt rfl rfl (by first | exact rgl rfl | omega) (fun h => absurd h (by decide)) (fun _ => ?_)
  refine jr.aload_n rfl rfl ?_
  refine jr.getf (i := 0) (v := .ref 599) rfl rfl (nlt rfl) rfl (nlt rfl) rfl rfl rfl rfl ?_
  refine jr.aload_n rfl rfl ?_
  refine jr.getf (i := 1) (x := (v1 + 1)) (v := .int (Int32.ofInt (v1 + 1))) rfl rfl (nlt rfl) rfl (nlt rfl) rfl rfl (ju_same _ _ _ _) rfl ?_
  refine jr.iload_n rfl rfl ?_
  refine jr.iload_n rfl rfl ?_
  refine jr.iushr rfl ?_
  refine jr.sipush rfl (by decide) ?_
  refine jr.iand rfl ?_
  have b3 : j_and (j_ushr x (24 + (-8))) 255 = bt x 2 ∧ 0 ≤ j_and (j_ushr x (24 + (-8))) 255 ∧ j_and (j_ushr x (24 + (-8))) 255 ≤ 255 := bt_rg (by omega) (by omega)
  generalize j_and (j_ushr x (24 + (-8))) 255 = v3 at b3 ⊢
  refine jr.iast (i := (v1 + 1)) (x := v3) rfl (nlt rfl) rfl (Nat.le_of_ble_eq_true rfl) (by omega) (by omega) ?_
  refine jr.aload_n rfl rfl ?_
  refine jr.dup rfl rfl ?_
  refine jr.getf (i := 1) (x := (v1 + 1)) (v := .int (Int32.ofInt (v1 + 1))) rfl rfl (nlt rfl) rfl (nlt rfl) rfl rfl ((ju_c _ _ (by decide)).trans (ju_same _ _ _ _)) rfl ?_
  refine jr.iconst rfl ?_
  refine jr.iadd rfl ?_
  refine jr.putf (i := 1) (x := ((v1 + 1) + 1)) rfl rfl (nlt rfl) rfl (nlt rfl) rfl rfl rfl rfl rfl ?_
  refine jr.iinc (ls' := [_, _, _]) rfl rfl (nlt rfl) rfl ?_
  refine jr.goto rfl rfl ?_
  refine jr.iload_n rfl rfl ?_
  refine jr.if_lt rfl rfl (by first | exact rgl rfl | omega) (fun h => absurd h (by decide)) (fun _ => ?_)
  refine jr.aload_n rfl rfl ?_
  refine jr.getf (i := 0) (v := .ref 599) rfl rfl (nlt rfl) rfl (nlt rfl) rfl rfl rfl rfl ?_
  refine jr.aload_n rfl rfl ?_
  refine jr.getf (i := 1) (x := ((v1 + 1) + 1)) (v := .int (Int32.ofInt ((v1 + 1) + 1))) rfl rfl (nlt rfl) rfl (nlt rfl) rfl rfl (ju_same _ _ _ _) rfl ?_
  refine jr.iload_n rfl rfl ?_
  refine jr.iload_n rfl rfl ?_
  refine jr.iushr rfl ?_
  refine jr.sipush rfl (by decide) ?_
  refine jr.iand rfl ?_
  have b4 : j_and (j_ushr x ((24 + (-8)) + (-8))) 255 = bt x 1 ∧ 0 ≤ j_and (j_ushr x ((24 + (-8)) + (-8))) 255 ∧ j_and (j_ushr x ((24 + (-8)) + (-8))) 255 ≤ 255 := bt_rg (by omega) (by omega)
  generalize j_and (j_ushr x ((24 + (-8)) + (-8))) 255 = v4 at b4 ⊢
  refine jr.iast (i := ((v1 + 1) + 1)) (x := v4) rfl (nlt rfl) rfl (Nat.le_of_ble_eq_true rfl) (by omega) (by omega) ?_
  refine jr.aload_n rfl rfl ?_
  refine jr.dup rfl rfl ?_
  refine jr.getf (i := 1) (x := ((v1 + 1) + 1)) (v := .int (Int32.ofInt ((v1 + 1) + 1))) rfl rfl (nlt rfl) rfl (nlt rfl) rfl rfl ((ju_c _ _ (by decide)).trans (ju_same _ _ _ _)) rfl ?_
  refine jr.iconst rfl ?_
  refine jr.iadd rfl ?_
  refine jr.putf (i := 1) (x := (((v1 + 1) + 1) + 1)) rfl rfl (nlt rfl) rfl (nlt rfl) rfl rfl rfl rfl rfl ?_
  refine jr.iinc (ls' := [_, _, _]) rfl rfl (nlt rfl) rfl ?_
  refine jr.goto rfl rfl ?_
  refine jr.iload_n rfl rfl ?_
  refine jr.if_lt rfl rfl (by first | exact rgl rfl | omega) (fun h => absurd h (by decide)) (fun _ => ?_)
  refine jr.aload_n rfl rfl ?_
  refine jr.getf (i := 0) (v := .ref 599) rfl rfl (nlt rfl) rfl (nlt rfl) rfl rfl rfl rfl ?_
  refine jr.aload_n rfl rfl ?_
  refine jr.getf (i := 1) (x := (((v1 + 1) + 1) + 1)) (v := .int (Int32.ofInt (((v1 + 1) + 1) + 1))) rfl rfl (nlt rfl) rfl (nlt rfl) rfl rfl (ju_same _ _ _ _) rfl ?_
  refine jr.iload_n rfl rfl ?_
  refine jr.iload_n rfl rfl ?_
  refine jr.iushr rfl ?_
  refine jr.sipush rfl (by decide) ?_
  refine jr.iand rfl ?_
  have b5 : j_and (j_ushr x (((24 + (-8)) + (-8)) + (-8))) 255 = bt x 0 ∧ 0 ≤ j_and (j_ushr x (((24 + (-8)) + (-8)) + (-8))) 255 ∧ j_and (j_ushr x (((24 + (-8)) + (-8)) + (-8))) 255 ≤ 255 := bt_rg (by omega) (by omega)
  generalize j_and (j_ushr x (((24 + (-8)) + (-8)) + (-8))) 255 = v5 at b5 ⊢
  refine jr.iast (i := (((v1 + 1) + 1) + 1)) (x := v5) rfl (nlt rfl) rfl (Nat.le_of_ble_eq_true rfl) (by omega) (by omega) ?_
  refine jr.aload_n rfl rfl ?_
  refine jr.dup rfl rfl ?_
  refine jr.getf (i := 1) (x := (((v1 + 1) + 1) + 1)) (v := .int (Int32.ofInt (((v1 + 1) + 1) + 1))) rfl rfl (nlt rfl) rfl (nlt rfl) rfl rfl ((ju_c _ _ (by decide)).trans (ju_same _ _ _ _)) rfl ?_
  refine jr.iconst rfl ?_
  refine jr.iadd rfl ?_
  refine jr.putf (i := 1) (x := ((((v1 + 1) + 1) + 1) + 1)) rfl rfl (nlt rfl) rfl (nlt rfl) rfl rfl rfl rfl rfl ?_
  refine jr.iinc (ls' := [_, _, _]) rfl rfl (nlt rfl) rfl ?_
  refine jr.goto rfl rfl ?_
  refine jr.iload_n rfl rfl ?_
  refine jr.if_lt rfl rfl (by first | exact rgl rfl | omega) (fun _ => ?_) (fun h => absurd (by decide) h)
  exact jr.vreturn rfl rfl (q _ (RI.u (RI.u (RI.u (RI.u (RI.u (RI.u (RI.u (RI.u hI_M (a := 599) (i := v1) (by rw [xri_row rfl rfl]; show (0 : Int) ≤ _ ∧ _ ≤ (255 : Int); omega)) (a := 598) (i := 1) (show (0 : Int) ≤ _ ∧ _ ≤ (1600 : Int) from by omega)) (a := 599) (i := (v1 + 1)) (by rw [xri_row rfl rfl]; show (0 : Int) ≤ _ ∧ _ ≤ (255 : Int); omega)) (a := 598) (i := 1) (show (0 : Int) ≤ _ ∧ _ ≤ (1600 : Int) from by omega)) (a := 599) (i := ((v1 + 1) + 1)) (by rw [xri_row rfl rfl]; show (0 : Int) ≤ _ ∧ _ ≤ (255 : Int); omega)) (a := 598) (i := 1) (show (0 : Int) ≤ _ ∧ _ ≤ (1600 : Int) from by omega)) (a := 599) (i := (((v1 + 1) + 1) + 1)) (by rw [xri_row rfl rfl]; show (0 : Int) ≤ _ ∧ _ ≤ (255 : Int); omega)) (a := 598) (i := 1) (show (0 : Int) ≤ _ ∧ _ ≤ (1600 : Int) from by omega)) (RH.o (RH.o (RH.o (RH.o (RH.o (RH.o (RH.o (RH.o hH_M (by decide) (by decide) (by decide)) (by decide) (by decide) (by decide)) (by decide) (by decide) (by decide)) (by decide) (by decide) (by decide)) (by decide) (by decide) (by decide)) (by decide) (by decide) (by decide)) (by decide) (by decide) (by decide)) (by decide) (by decide) (by decide)) (RF.o (RF.o (RF.o (RF.o (RF.o (RF.o (RF.o (RF.o hS_M (by decide) (by decide)) (by decide) (by decide)) (by decide) (by decide)) (by decide) (by decide)) (by decide) (by decide)) (by decide) (by decide)) (by decide) (by decide)) (by decide) (by decide))  (by rw [e1]; exact t4_4 _ (by rw [show v1 = v1 from by omega]; exact (((ju_c _ _ (by decide)).trans ((ju_i _ _ (by omega)).trans ((ju_c _ _ (by decide)).trans ((ju_i _ _ (by omega)).trans ((ju_c _ _ (by decide)).trans ((ju_i _ _ (by omega)).trans ((ju_c _ _ (by decide)).trans (ju_same _ _ _ _))))))))).trans (by omega)) (by rw [show v1 + 1 = v1 + 1 from by omega]; exact (((ju_c _ _ (by decide)).trans ((ju_i _ _ (by omega)).trans ((ju_c _ _ (by decide)).trans ((ju_i _ _ (by omega)).trans ((ju_c _ _ (by decide)).trans (ju_same _ _ _ _))))))).trans (by omega)) (by rw [show v1 + 2 = (v1 + 1) + 1 from by omega]; exact (((ju_c _ _ (by decide)).trans ((ju_i _ _ (by omega)).trans ((ju_c _ _ (by decide)).trans (ju_same _ _ _ _))))).trans (by omega)) (by rw [show v1 + 3 = ((v1 + 1) + 1) + 1 from by omega]; exact (((ju_c _ _ (by decide)).trans (ju_same _ _ _ _))).trans (by omega)) (fun k hk => ((ju_c _ _ (by decide)).trans ((ju_i _ _ (by omega)).trans ((ju_c _ _ (by decide)).trans ((ju_i _ _ (by omega)).trans ((ju_c _ _ (by decide)).trans ((ju_i _ _ (by omega)).trans ((ju_c _ _ (by decide)).trans ((ju_i _ _ (by omega)).trans rfl)))))))))) ((ju_same _ _ _ _).trans (by omega)) (fun a i f598 f599 => ((ju_c _ _ f598).trans ((ju_c _ _ f599).trans ((ju_c _ _ f598).trans ((ju_c _ _ f599).trans ((ju_c _ _ f598).trans ((ju_c _ _ f599).trans ((ju_c _ _ f598).trans ((ju_c _ _ f599).trans rfl))))))))) (fun i g1 => ((ju_i _ _ g1).trans ((ju_c _ _ (by decide)).trans ((ju_i _ _ g1).trans ((ju_c _ _ (by decide)).trans ((ju_i _ _ g1).trans ((ju_c _ _ (by decide)).trans ((ju_i _ _ g1).trans ((ju_c _ _ (by decide)).trans rfl))))))))))
theorem r_feed_x {A : Nat → Option (Nat × (Nat → Int32))} {Q : Option Value → jm → Prop} {M : jm} (hI_M : RI M) (hH_M : RH M) (hS_M : RF M) {a : Int} (h_a : (-2147483648) ≤ a ∧ a ≤ 2147483647) {b : Int} (h_b : (-2147483648) ≤ b ∧ b ≤ 2147483647) {c : Int} (h_c : (-2147483648) ≤ c ∧ c ≤ 2147483647) {d : Int} (h_d : (-2147483648) ≤ d ∧ d ≤ 2147483647) {e : Int} (h_e : (-2147483648) ≤ e ∧ e ≤ 2147483647) (q : ∀ (r : Int) (M' : jm), RI M' → RH M' → RF M' → (-5) ≤ r ∧ r ≤ 1600 → ((M 598 1 + 20 ≤ 1600 ∧ r = M 598 1 + 20 ∧ M' 599 = t4 (t4 (t4 (t4 (t4 (M 599) (M 598 1) a) (M 598 1 + 4) b) ((M 598 1 + 4) + 4) c) (((M 598 1 + 4) + 4) + 4) d) ((((M 598 1 + 4) + 4) + 4) + 4) e ∧ M' 598 1 = M 598 1 + 20) ∨ (1600 < M 598 1 + 20 ∧ r = -5 ∧ M' 599 = M 599 ∧ M' 598 1 = M 598 1)) → (∀ (a : Nat) (i : Int), a ≠ 598 → a ≠ 599 → M' a i = M a i) → (∀ (i : Int), i ≠ 1 → M' 598 i = M 598 i) → Q (some (.int (Int32.ofInt r))) M') : jc A 2 244 [.ref (598), .int (Int32.ofInt (a)), .int (Int32.ofInt (b)), .int (Int32.ofInt (c)), .int (Int32.ofInt (d)), .int (Int32.ofInt (e))] M Q := by
  refine jc_of (m := xm_244) rfl (Nat.le_of_ble_eq_true rfl) rfl ?_
  refine jr.aload_n rfl rfl ?_
  obtain ⟨v1, e1⟩ : ∃ z, M 598 1 = z := ⟨_, rfl⟩
  have b1 : 0 ≤ v1 ∧ v1 ≤ 1600 := by rw [← e1]; exact hI_M 598 1 (Nat.le_of_ble_eq_true rfl)
  refine jr.getf (i := 1) (x := v1) (v := .int (Int32.ofInt (v1))) rfl rfl (nlt rfl) rfl (nlt rfl) rfl rfl e1 rfl ?_
  refine jr.bipush rfl (jbp _ (nlt rfl)) ?_
  refine jr.iadd rfl ?_
  refine jr.sipush rfl (by decide) ?_
  refine jr.icmp_le rfl rfl (by first | (refine rgb (by assumption) ?_; exact rfl) | omega) (rgl rfl) (fun h10 => ?_) (fun h10 => ?_)
  · refine jr.aload_n rfl rfl ?_
    refine jr.iload_n rfl rfl ?_
    refine jr_v rfl rfl (Or.inl rfl) rfl rfl (nlt rfl) rfl ⟨rfl, Nat.le_of_ble_eq_true rfl, Nat.le_of_ble_eq_true rfl⟩ rfl (jc.deep (r_putWord_x hI_M hH_M hS_M  (by omega) (by rw [e1]; omega) (fun M2 hI_M2 hH_M2 hS_M2  w2_0 w2_1 w2_2 w2_3 => ?_)) (Nat.le_of_ble_eq_true rfl))
    refine jr.aload_n rfl rfl ?_
    refine jr.iload_n rfl rfl ?_
    obtain ⟨v4, e4⟩ : ∃ z, M2 598 1 = z := ⟨_, rfl⟩
    have b4 : 0 ≤ v4 ∧ v4 ≤ 1600 := by rw [← e4]; exact hI_M2 598 1 (Nat.le_of_ble_eq_true rfl)
    refine jr_v rfl rfl (Or.inl rfl) rfl rfl (nlt rfl) rfl ⟨rfl, Nat.le_of_ble_eq_true rfl, Nat.le_of_ble_eq_true rfl⟩ rfl (jc.deep (r_putWord_x hI_M2 hH_M2 hS_M2  (by omega) (by rw [e4]; omega) (fun M3 hI_M3 hH_M3 hS_M3  w3_0 w3_1 w3_2 w3_3 => ?_)) (Nat.le_of_ble_eq_true rfl))
    refine jr.aload_n rfl rfl ?_
    refine jr.iload_n rfl rfl ?_
    obtain ⟨v6, e6⟩ : ∃ z, M3 598 1 = z := ⟨_, rfl⟩
    have b6 : 0 ≤ v6 ∧ v6 ≤ 1600 := by rw [← e6]; exact hI_M3 598 1 (Nat.le_of_ble_eq_true rfl)
    refine jr_v rfl rfl (Or.inl rfl) rfl rfl (nlt rfl) rfl ⟨rfl, Nat.le_of_ble_eq_true rfl, Nat.le_of_ble_eq_true rfl⟩ rfl (jc.deep (r_putWord_x hI_M3 hH_M3 hS_M3  (by omega) (by rw [e6]; omega) (fun M5 hI_M5 hH_M5 hS_M5  w5_0 w5_1 w5_2 w5_3 => ?_)) (Nat.le_of_ble_eq_true rfl))
    refine jr.aload_n rfl rfl ?_
    refine jr.iload rfl rfl ?_
    obtain ⟨v8, e8⟩ : ∃ z, M5 598 1 = z := ⟨_, rfl⟩
    have b8 : 0 ≤ v8 ∧ v8 ≤ 1600 := by rw [← e8]; exact hI_M5 598 1 (Nat.le_of_ble_eq_true rfl)
    refine jr_v rfl rfl (Or.inl rfl) rfl rfl (nlt rfl) rfl ⟨rfl, Nat.le_of_ble_eq_true rfl, Nat.le_of_ble_eq_true rfl⟩ rfl (jc.deep (r_putWord_x hI_M5 hH_M5 hS_M5  (by omega) (by rw [e8]; omega) (fun M7 hI_M7 hH_M7 hS_M7  w7_0 w7_1 w7_2 w7_3 => ?_)) (Nat.le_of_ble_eq_true rfl))
    refine jr.aload_n rfl rfl ?_
    refine jr.iload rfl rfl ?_
    obtain ⟨v10, e10⟩ : ∃ z, M7 598 1 = z := ⟨_, rfl⟩
    have b10 : 0 ≤ v10 ∧ v10 ≤ 1600 := by rw [← e10]; exact hI_M7 598 1 (Nat.le_of_ble_eq_true rfl)
    refine jr_v rfl rfl (Or.inl rfl) rfl rfl (nlt rfl) rfl ⟨rfl, Nat.le_of_ble_eq_true rfl, Nat.le_of_ble_eq_true rfl⟩ rfl (jc.deep (r_putWord_x hI_M7 hH_M7 hS_M7  (by omega) (by rw [e10]; omega) (fun M9 hI_M9 hH_M9 hS_M9  w9_0 w9_1 w9_2 w9_3 => ?_)) (Nat.le_of_ble_eq_true rfl))
    refine jr.aload_n rfl rfl ?_
    obtain ⟨v11, e11⟩ : ∃ z, M9 598 1 = z := ⟨_, rfl⟩
    have b11 : 0 ≤ v11 ∧ v11 ≤ 1600 := by rw [← e11]; exact hI_M9 598 1 (Nat.le_of_ble_eq_true rfl)
    refine jr.getf (i := 1) (x := v11) (v := .int (Int32.ofInt (v11))) rfl rfl (nlt rfl) rfl (nlt rfl) rfl rfl e11 rfl ?_
    exact jr.ireturn rfl rfl rfl (q _ _ hI_M9 hH_M9 hS_M9  (by omega) (Or.inl ⟨by omega, by omega, by rw [w9_0, w7_0, w5_0, w3_0, w2_0, w7_1, w5_1, w3_1, w2_1], by omega⟩) (fun a i f598 f599 => ((w9_2 a i f598 f599).trans ((w7_2 a i f598 f599).trans ((w5_2 a i f598 f599).trans ((w3_2 a i f598 f599).trans ((w2_2 a i f598 f599).trans rfl)))))) (fun i g1 => ((w9_3 i g1).trans ((w7_3 i g1).trans ((w5_3 i g1).trans ((w3_3 i g1).trans ((w2_3 i g1).trans rfl)))))))
  · refine jr.bipush rfl (by decide) ?_
    exact jr.ireturn rfl rfl rfl (q _ _ hI_M hH_M hS_M  (by first | exact rgq rfl | omega) (Or.inr ⟨by omega, by omega, rfl, rfl⟩) (fun a i f598 f599 => rfl) (fun i g1 => rfl))
theorem r_end_x {A : Nat → Option (Nat × (Nat → Int32))} {Q : Option Value → jm → Prop} {M : jm} (hI_M : RI M) (hH_M : RH M) (hS_M : RF M) {x : Int} (h_x : (-2147483648) ≤ x ∧ x ≤ 2147483647) (q : ∀ (r : Int) (M' : jm), RI M' → RH M' → RF M' → (-3) ≤ r ∧ r ≤ 1600 → (((0 ≤ x ∧ x ≤ M 598 1) ∧ r = x ∧ M' 598 1 = x) ∨ ((x < 0 ∨ M 598 1 < x) ∧ r = -3 ∧ M' 598 1 = M 598 1)) → (∀ (a : Nat) (i : Int), a ≠ 598 → M' a i = M a i) → (∀ (i : Int), i ≠ 1 → M' 598 i = M 598 i) → Q (some (.int (Int32.ofInt r))) M') : jc A 2 245 [.ref (598), .int (Int32.ofInt (x))] M Q := by
  refine jc_of (m := xm_245) rfl (Nat.le_of_ble_eq_true rfl) rfl ?_
  refine jr.iload_n rfl rfl ?_
  refine jr.i2l rfl (by omega) ?_
  refine jr.lconst (x := 0) rfl (by decide) ?_
  refine jr.aload_n rfl rfl ?_
  obtain ⟨v1, e1⟩ : ∃ z, M 598 1 = z := ⟨_, rfl⟩
  have b1 : 0 ≤ v1 ∧ v1 ≤ 1600 := by rw [← e1]; exact hI_M 598 1 (Nat.le_of_ble_eq_true rfl)
  refine jr.getf (i := 1) (x := v1) (v := .int (Int32.ofInt (v1))) rfl rfl (nlt rfl) rfl (nlt rfl) rfl rfl e1 rfl ?_
  refine jr.i2l rfl (by omega) ?_
  refine jr_s rfl rfl (Or.inl rfl) ⟨Nat.le_of_ble_eq_true rfl, Nat.le_of_ble_eq_true rfl⟩ rfl rfl (jc.deep (c_within (by omega) (by omega) (by omega) (fun l8 u8 => ?_) (fun n8 => ?_)) (Nat.le_of_ble_eq_true rfl))
  · refine jr.if_ne rfl rfl (by first | exact rgl rfl | omega) (fun _ => ?_) (fun h => absurd (by decide) h)
    refine jr.aload_n rfl rfl ?_
    refine jr.iload_n rfl rfl ?_
    refine jr.putf (i := 1) (x := x) rfl rfl (nlt rfl) rfl (nlt rfl) rfl rfl rfl rfl rfl ?_
    refine jr.iload_n rfl rfl ?_
    exact jr.ireturn rfl rfl rfl (q _ _ (RI.u hI_M (a := 598) (i := 1) (show (0 : Int) ≤ _ ∧ _ ≤ (1600 : Int) from by omega)) (RH.o hH_M (by decide) (by decide) (by decide)) (RF.o hS_M (by decide) (by decide))  (by omega) (by have hq : (ju M 598 1 x) 598 1 = x := (ju_same _ _ _ _); omega) (fun a i f598 => ((ju_c _ _ f598).trans rfl)) (fun i g1 => ((ju_i _ _ g1).trans rfl)))
  · refine jr.if_ne rfl rfl (by first | exact rgl rfl | omega) (fun h => absurd h (by decide)) (fun _ => ?_)
    refine jr.bipush rfl (by decide) ?_
    exact jr.ireturn rfl rfl rfl (q _ _ hI_M hH_M hS_M  (by first | exact rgq rfl | omega) (by have hq : M 598 1 = v1 := e1; omega) (fun a i f598 => rfl) (fun i g1 => rfl))
theorem r_tape_x {A : Nat → Option (Nat × (Nat → Int32))} {Q : Option Value → jm → Prop} {M : jm} (hI_M : RI M) (hH_M : RH M) (hS_M : RF M) {i : Int} (h_i : (-2147483648) ≤ i ∧ i ≤ 2147483647) (q : ∀ (r : Int) (M' : jm), RI M' → RH M' → RF M' → (-1) ≤ r ∧ r ≤ 255 → (((0 ≤ i ∧ i < M 598 1) ∧ r = M 599 i) ∨ ((i < 0 ∨ M 598 1 ≤ i) ∧ r = -1)) → M' = M → (∀ (a : Nat) (i : Int), a ≠ 598 → M' a i = M a i) → (∀ (i : Int), i ≠ 1 → M' 598 i = M 598 i) → Q (some (.int (Int32.ofInt r))) M') : jc A 2 334 [.ref (598), .int (Int32.ofInt (i))] M Q := by
  refine jc_of (m := xm_334) rfl (Nat.le_of_ble_eq_true rfl) rfl ?_
  refine jr.iload_n rfl rfl ?_
  refine jr.i2l rfl (by omega) ?_
  refine jr.lconst (x := 0) rfl (by decide) ?_
  refine jr.aload_n rfl rfl ?_
  obtain ⟨v1, e1⟩ : ∃ z, M 598 1 = z := ⟨_, rfl⟩
  have b1 : 0 ≤ v1 ∧ v1 ≤ 1600 := by rw [← e1]; exact hI_M 598 1 (Nat.le_of_ble_eq_true rfl)
  refine jr.getf (i := 1) (x := v1) (v := .int (Int32.ofInt (v1))) rfl rfl (nlt rfl) rfl (nlt rfl) rfl rfl e1 rfl ?_
  refine jr.iconst rfl ?_
  refine jr.isub rfl ?_
  refine jr.i2l rfl (by omega) ?_
  refine jr_s rfl rfl (Or.inl rfl) ⟨Nat.le_of_ble_eq_true rfl, Nat.le_of_ble_eq_true rfl⟩ rfl rfl (jc.deep (c_within (by omega) (by omega) (by omega) (fun l10 u10 => ?_) (fun n10 => ?_)) (Nat.le_of_ble_eq_true rfl))
  · refine jr.if_eq rfl rfl (by first | exact rgl rfl | omega) (fun h => absurd h (by decide)) (fun _ => ?_)
    refine jr.aload_n rfl rfl ?_
    refine jr.getf (i := 0) (v := .ref 599) rfl rfl (nlt rfl) rfl (nlt rfl) rfl rfl rfl rfl ?_
    refine jr.iload_n rfl rfl ?_
    obtain ⟨v2, e2⟩ : ∃ z, M 599 i = z := ⟨_, rfl⟩
    have b2 : 0 ≤ v2 ∧ v2 ≤ 255 := by rw [← e2]; exact (by have q := hI_M 599 i (Nat.le_of_ble_eq_true rfl); rw [xri_row rfl rfl] at q; exact q)
    refine jr.iald (i := i) (x := v2) rfl (nlt rfl) rfl (Nat.le_of_ble_eq_true rfl) (by omega) (by omega) e2 ?_
    refine jr.goto rfl rfl ?_
    exact jr.ireturn rfl rfl rfl (q _ _ hI_M hH_M hS_M  (by omega) (by omega) rfl (fun a i f598 => rfl) (fun i g1 => rfl))
  · refine jr.if_eq rfl rfl (by first | exact rgl rfl | omega) (fun _ => ?_) (fun h => absurd (by decide) h)
    refine jr.iconst rfl ?_
    exact jr.ireturn rfl rfl rfl (q _ _ hI_M hH_M hS_M  (by first | exact rgq rfl | omega) (by omega) rfl (fun a i f598 => rfl) (fun i g1 => rfl))
theorem r_at_x {A : Nat → Option (Nat × (Nat → Int32))} {Q : Option Value → jm → Prop} {M : jm} (hI_M : RI M) (hH_M : RH M) (hS_M : RF M) {x : Int} (h_x : (-2147483648) ≤ x ∧ x ≤ 2147483647) {i : Int} (h_i : (-2147483648) ≤ i ∧ i ≤ 2147483647) (q : ∀ (r : Int) (M' : jm), RI M' → RH M' → RF M' → (-2) ≤ r ∧ r ≤ 400 → (((x < 0 ∨ 23 < x ∨ M 600 x = -1) ∧ r = -2) ∨ ((0 ≤ x ∧ x ≤ 23) ∧ M 600 x ≠ -1 ∧ ((i = -1 ∧ r = M 600 x) ∨ (i ≠ -1 ∧ (0 ≤ i ∧ i < M 600 x) ∧ r = M 601 (400 * x + i)) ∨ (i ≠ -1 ∧ (i < 0 ∨ M 600 x ≤ i) ∧ r = -1)))) → M' = M → (∀ (a : Nat) (i : Int), a ≠ 598 → M' a i = M a i) → (∀ (i : Int), i ≠ 1 → M' 598 i = M 598 i) → Q (some (.int (Int32.ofInt r))) M') : jc A 4 250 [.ref (598), .int (Int32.ofInt (x)), .int (Int32.ofInt (i))] M Q := by
  refine jc_of (m := xm_250) rfl (Nat.le_of_ble_eq_true rfl) rfl ?_
  refine jr.aload_n rfl rfl ?_
  refine jr.iload_n rfl rfl ?_
  refine jr_v rfl rfl (Or.inl rfl) rfl rfl (nlt rfl) rfl ⟨rfl, Nat.le_of_ble_eq_true rfl, Nat.le_of_ble_eq_true rfl⟩ rfl (jc.deep (c_isThere hI_M (by omega) (fun l2 u2 t2 => ?_) (fun n2 => ?_)) (Nat.le_of_ble_eq_true rfl))
  · refine jr.if_ne rfl rfl (by first | exact rgl rfl | omega) (fun _ => ?_) (fun h => absurd (by decide) h)
    refine jr.iload_n rfl rfl ?_
    refine jr.iconst rfl ?_
    refine jr.icmp_ne rfl rfl (by first | (refine rgb (by assumption) ?_; exact rfl) | omega) (rgl rfl) (fun h13 => ?_) (fun h13 => ?_)
    · refine jr.iload_n rfl rfl ?_
      refine jr.i2l rfl (by omega) ?_
      refine jr.lconst (x := 0) rfl (by decide) ?_
      refine jr.aload_n rfl rfl ?_
      refine jr.getf (i := 3) (v := .ref 600) rfl rfl (nlt rfl) rfl (nlt rfl) rfl rfl rfl rfl ?_
      refine jr.iload_n rfl rfl ?_
      obtain ⟨v1, e1⟩ : ∃ z, M 600 x = z := ⟨_, rfl⟩
      have b1 : (-1) ≤ v1 ∧ v1 ≤ 400 := by rw [← e1]; exact (by have q := hI_M 600 x (Nat.le_of_ble_eq_true rfl); rw [xri_row rfl rfl] at q; exact q)
      refine jr.iald (i := x) (x := v1) rfl (nlt rfl) rfl (Nat.le_of_ble_eq_true rfl) (by omega) (by omega) e1 ?_
      refine jr.iconst rfl ?_
      refine jr.isub rfl ?_
      refine jr.i2l rfl (by omega) ?_
      refine jr_s rfl rfl (Or.inl rfl) ⟨Nat.le_of_ble_eq_true rfl, Nat.le_of_ble_eq_true rfl⟩ rfl rfl (jc.deep (c_within (by omega) (by omega) (by omega) (fun l37 u37 => ?_) (fun n37 => ?_)) (Nat.le_of_ble_eq_true rfl))
      · refine jr.if_eq rfl rfl (by first | exact rgl rfl | omega) (fun h => absurd h (by decide)) (fun _ => ?_)
        refine jr.aload_n rfl rfl ?_
        refine jr.getf (i := 4) (v := .ref 601) rfl rfl (nlt rfl) rfl (nlt rfl) rfl rfl rfl rfl ?_
        refine jr.sipush rfl (by decide) ?_
        refine jr.iload_n rfl rfl ?_
        refine jr.imul rfl ?_
        refine jr.iload_n rfl rfl ?_
        refine jr.iadd rfl ?_
        obtain ⟨v2, e2⟩ : ∃ z, M 601 ((400 * x) + i) = z := ⟨_, rfl⟩
        have b2 : 0 ≤ v2 ∧ v2 ≤ 255 := by rw [← e2]; exact (by have q := hI_M 601 ((400 * x) + i) (by decide); rw [xri_row rfl rfl] at q; exact q)
        refine jr.iald (i := ((400 * x) + i)) (x := v2) rfl (nlt rfl) rfl (Nat.le_of_ble_eq_true rfl) (by omega) (by omega) e2 ?_
        refine jr.goto rfl rfl ?_
        exact jr.ireturn rfl rfl rfl (q _ _ hI_M hH_M hS_M  (by omega) (by omega) rfl (fun a i f598 => rfl) (fun i g1 => rfl))
      · refine jr.if_eq rfl rfl (by first | exact rgl rfl | omega) (fun _ => ?_) (fun h => absurd (by decide) h)
        refine jr.iconst rfl ?_
        exact jr.ireturn rfl rfl rfl (q _ _ hI_M hH_M hS_M  (by first | exact rgq rfl | omega) (by omega) rfl (fun a i f598 => rfl) (fun i g1 => rfl))
    · refine jr.aload_n rfl rfl ?_
      refine jr.getf (i := 3) (v := .ref 600) rfl rfl (nlt rfl) rfl (nlt rfl) rfl rfl rfl rfl ?_
      refine jr.iload_n rfl rfl ?_
      obtain ⟨v3, e3⟩ : ∃ z, M 600 x = z := ⟨_, rfl⟩
      have b3 : (-1) ≤ v3 ∧ v3 ≤ 400 := by rw [← e3]; exact (by have q := hI_M 600 x (Nat.le_of_ble_eq_true rfl); rw [xri_row rfl rfl] at q; exact q)
      refine jr.iald (i := x) (x := v3) rfl (nlt rfl) rfl (Nat.le_of_ble_eq_true rfl) (by omega) (by omega) e3 ?_
      refine jr.goto rfl rfl ?_
      exact jr.ireturn rfl rfl rfl (q _ _ hI_M hH_M hS_M  (by omega) (by omega) rfl (fun a i f598 => rfl) (fun i g1 => rfl))
  · refine jr.if_ne rfl rfl (by first | exact rgl rfl | omega) (fun h => absurd h (by decide)) (fun _ => ?_)
    refine jr.bipush rfl (by decide) ?_
    exact jr.ireturn rfl rfl rfl (q _ _ hI_M hH_M hS_M  (by first | exact rgq rfl | omega) (by omega) rfl (fun a i f598 => rfl) (fun i g1 => rfl))
theorem r_set_x {A : Nat → Option (Nat × (Nat → Int32))} {Q : Option Value → jm → Prop} {M : jm} (hI_M : RI M) (hH_M : RH M) (hS_M : RF M) {x : Int} (h_x : (-2147483648) ≤ x ∧ x ≤ 2147483647) {i : Int} (h_i : (-2147483648) ≤ i ∧ i ≤ 2147483647) {w : Int} (h_w : (-2147483648) ≤ w ∧ w ≤ 2147483647) (q : ∀ (r : Int) (M' : jm), RI M' → RH M' → RF M' → (-3) ≤ r ∧ r ≤ 255 → (((x < 0 ∨ 23 < x ∨ M 600 x = -1) ∧ r = -2 ∧ M' = M) ∨ ((0 ≤ x ∧ x ≤ 23) ∧ M 600 x ≠ -1 ∧ (i < 0 ∨ M 600 x ≤ i ∨ w < 0 ∨ 255 < w) ∧ r = -3 ∧ M' = M) ∨ ((0 ≤ x ∧ x ≤ 23) ∧ M 600 x ≠ -1 ∧ (0 ≤ i ∧ i < M 600 x) ∧ (0 ≤ w ∧ w ≤ 255) ∧ r = M 601 (400 * x + i) ∧ M' = ju M 601 (400 * x + i) w)) → (∀ (a : Nat) (i : Int), a ≠ 601 → M' a i = M a i) → (∀ (i : Int), i ≠ 1 → M' 598 i = M 598 i) → Q (some (.int (Int32.ofInt r))) M') : jc A 4 251 [.ref (598), .int (Int32.ofInt (x)), .int (Int32.ofInt (i)), .int (Int32.ofInt (w))] M Q := by
  refine jc_of (m := xm_251) rfl (Nat.le_of_ble_eq_true rfl) rfl ?_
  refine jr.aload_n rfl rfl ?_
  refine jr.iload_n rfl rfl ?_
  refine jr_v rfl rfl (Or.inl rfl) rfl rfl (nlt rfl) rfl ⟨rfl, Nat.le_of_ble_eq_true rfl, Nat.le_of_ble_eq_true rfl⟩ rfl (jc.deep (c_isThere hI_M (by omega) (fun l2 u2 t2 => ?_) (fun n2 => ?_)) (Nat.le_of_ble_eq_true rfl))
  · refine jr.if_ne rfl rfl (by first | exact rgl rfl | omega) (fun _ => ?_) (fun h => absurd (by decide) h)
    refine jr.iload_n rfl rfl ?_
    refine jr.i2l rfl (by omega) ?_
    refine jr.lconst (x := 0) rfl (by decide) ?_
    refine jr.aload_n rfl rfl ?_
    refine jr.getf (i := 3) (v := .ref 600) rfl rfl (nlt rfl) rfl (nlt rfl) rfl rfl rfl rfl ?_
    refine jr.iload_n rfl rfl ?_
    obtain ⟨v1, e1⟩ : ∃ z, M 600 x = z := ⟨_, rfl⟩
    have b1 : (-1) ≤ v1 ∧ v1 ≤ 400 := by rw [← e1]; exact (by have q := hI_M 600 x (Nat.le_of_ble_eq_true rfl); rw [xri_row rfl rfl] at q; exact q)
    refine jr.iald (i := x) (x := v1) rfl (nlt rfl) rfl (Nat.le_of_ble_eq_true rfl) (by omega) (by omega) e1 ?_
    refine jr.iconst rfl ?_
    refine jr.isub rfl ?_
    refine jr.i2l rfl (by omega) ?_
    refine jr_s rfl rfl (Or.inl rfl) ⟨Nat.le_of_ble_eq_true rfl, Nat.le_of_ble_eq_true rfl⟩ rfl rfl (jc.deep (c_within (by omega) (by omega) (by omega) (fun l23 u23 => ?_) (fun n23 => ?_)) (Nat.le_of_ble_eq_true rfl))
    · refine jr.if_eq rfl rfl (by first | exact rgl rfl | omega) (fun h => absurd h (by decide)) (fun _ => ?_)
      refine jr.iload_n rfl rfl ?_
      refine jr.i2l rfl (by omega) ?_
      refine jr.lconst (x := 0) rfl (by decide) ?_
      refine jr.ldc2 (x := 255) rfl rfl (by decide) ?_
      refine jr_s rfl rfl (Or.inl rfl) ⟨Nat.le_of_ble_eq_true rfl, Nat.le_of_ble_eq_true rfl⟩ rfl rfl (jc.deep (c_within (by omega) (by omega) (by omega) (fun l35 u35 => ?_) (fun n35 => ?_)) (Nat.le_of_ble_eq_true rfl))
      · refine jr.if_ne rfl rfl (by first | exact rgl rfl | omega) (fun _ => ?_) (fun h => absurd (by decide) h)
        refine jr.aload_n rfl rfl ?_
        refine jr.getf (i := 4) (v := .ref 601) rfl rfl (nlt rfl) rfl (nlt rfl) rfl rfl rfl rfl ?_
        refine jr.sipush rfl (by decide) ?_
        refine jr.iload_n rfl rfl ?_
        refine jr.imul rfl ?_
        refine jr.iload_n rfl rfl ?_
        refine jr.iadd rfl ?_
        obtain ⟨v2, e2⟩ : ∃ z, M 601 ((400 * x) + i) = z := ⟨_, rfl⟩
        have b2 : 0 ≤ v2 ∧ v2 ≤ 255 := by rw [← e2]; exact (by have q := hI_M 601 ((400 * x) + i) (by decide); rw [xri_row rfl rfl] at q; exact q)
        refine jr.iald (i := ((400 * x) + i)) (x := v2) rfl (nlt rfl) rfl (Nat.le_of_ble_eq_true rfl) (by omega) (by omega) e2 ?_
        refine jr.istore (ls' := [_, _, _, _, _]) rfl (nlt rfl) rfl ?_
        refine jr.aload_n rfl rfl ?_
        refine jr.getf (i := 4) (v := .ref 601) rfl rfl (nlt rfl) rfl (nlt rfl) rfl rfl rfl rfl ?_
        refine jr.sipush rfl (by decide) ?_
        refine jr.iload_n rfl rfl ?_
        refine jr.imul rfl ?_
        refine jr.iload_n rfl rfl ?_
        refine jr.iadd rfl ?_
        refine jr.iload_n rfl rfl ?_
        refine jr.iast (i := ((400 * x) + i)) (x := w) rfl (nlt rfl) rfl (Nat.le_of_ble_eq_true rfl) (by omega) (by omega) ?_
        refine jr.iload rfl rfl ?_
        exact jr.ireturn rfl rfl rfl (q _ _ (RI.u hI_M (a := 601) (i := ((400 * x) + i)) (by rw [xri_row rfl rfl]; show (0 : Int) ≤ _ ∧ _ ≤ (255 : Int); omega)) (RH.o hH_M (by decide) (by decide) (by decide)) (RF.o hS_M (by decide) (by decide))  (by omega) (Or.inr (Or.inr ⟨by omega, by omega, by omega, by omega, by omega, rfl⟩)) (fun a i f601 => ((ju_c _ _ f601).trans rfl)) (fun i g1 => ((ju_c _ _ (by decide)).trans rfl)))
      · refine jr.if_ne rfl rfl (by first | exact rgl rfl | omega) (fun h => absurd h (by decide)) (fun _ => ?_)
        refine jr.bipush rfl (by decide) ?_
        exact jr.ireturn rfl rfl rfl (q _ _ hI_M hH_M hS_M  (by first | exact rgq rfl | omega) (by first | exact Or.inl ⟨by omega, by omega, rfl⟩ | exact Or.inr (Or.inl ⟨by omega, by omega, by omega, by omega, rfl⟩)) (fun a i f601 => rfl) (fun i g1 => rfl))
    · refine jr.if_eq rfl rfl (by first | exact rgl rfl | omega) (fun _ => ?_) (fun h => absurd (by decide) h)
      refine jr.bipush rfl (by decide) ?_
      exact jr.ireturn rfl rfl rfl (q _ _ hI_M hH_M hS_M  (by first | exact rgq rfl | omega) (by first | exact Or.inl ⟨by omega, by omega, rfl⟩ | exact Or.inr (Or.inl ⟨by omega, by omega, by omega, by omega, rfl⟩)) (fun a i f601 => rfl) (fun i g1 => rfl))
  · refine jr.if_ne rfl rfl (by first | exact rgl rfl | omega) (fun h => absurd h (by decide)) (fun _ => ?_)
    refine jr.bipush rfl (by decide) ?_
    exact jr.ireturn rfl rfl rfl (q _ _ hI_M hH_M hS_M  (by first | exact rgq rfl | omega) (by first | exact Or.inl ⟨by omega, by omega, rfl⟩ | exact Or.inr (Or.inl ⟨by omega, by omega, by omega, by omega, rfl⟩)) (fun a i f601 => rfl) (fun i g1 => rfl))
theorem r_drop_x {A : Nat → Option (Nat × (Nat → Int32))} {Q : Option Value → jm → Prop} {M : jm} (hI_M : RI M) (hH_M : RH M) (hS_M : RF M) {x : Int} (h_x : (-2147483648) ≤ x ∧ x ≤ 2147483647) (q : ∀ (r : Int) (M' : jm), RI M' → RH M' → RF M' → (-3) ≤ r ∧ r ≤ 1 → (((x < 0 ∨ 23 < x) ∧ r = -3 ∧ M' = M) ∨ ((0 ≤ x ∧ x ≤ 23) ∧ ((M 600 x = -1 ∧ r = 0) ∨ (M 600 x ≠ -1 ∧ r = 1)) ∧ M' = ju (ju M 600 x (-1)) 602 x 0)) → (∀ (a : Nat) (i : Int), a ≠ 600 → a ≠ 602 → M' a i = M a i) → (∀ (i : Int), i ≠ 1 → M' 598 i = M 598 i) → Q (some (.int (Int32.ofInt r))) M') : jc A 3 249 [.ref (598), .int (Int32.ofInt (x))] M Q := by
  refine jc_of (m := xm_249) rfl (Nat.le_of_ble_eq_true rfl) rfl ?_
  refine jr.iload_n rfl rfl ?_
  refine jr_s rfl rfl (Or.inl rfl) ⟨Nat.le_of_ble_eq_true rfl, Nat.le_of_ble_eq_true rfl⟩ rfl rfl (jc.deep (c_isPN (by omega) (fun l1 u1 => ?_) (fun n1 => ?_)) (Nat.le_of_ble_eq_true rfl))
  · refine jr.if_ne rfl rfl (by first | exact rgl rfl | omega) (fun _ => ?_) (fun h => absurd (by decide) h)
    refine jr.aload_n rfl rfl ?_
    refine jr.getf (i := 3) (v := .ref 600) rfl rfl (nlt rfl) rfl (nlt rfl) rfl rfl rfl rfl ?_
    refine jr.iload_n rfl rfl ?_
    obtain ⟨v1, e1⟩ : ∃ z, M 600 x = z := ⟨_, rfl⟩
    have b1 : (-1) ≤ v1 ∧ v1 ≤ 400 := by rw [← e1]; exact (by have q := hI_M 600 x (Nat.le_of_ble_eq_true rfl); rw [xri_row rfl rfl] at q; exact q)
    refine jr.iald (i := x) (x := v1) rfl (nlt rfl) rfl (Nat.le_of_ble_eq_true rfl) (by omega) (by omega) e1 ?_
    refine jr.iconst rfl ?_
    refine jr.icmp_ne rfl rfl (by first | (refine rgb (by assumption) ?_; exact rfl) | omega) (rgl rfl) (fun h17 => ?_) (fun h17 => ?_)
    · have sx17 : (0 : Int) ≤ v1 := by omega
      clear h17
      refine jr.iconst rfl ?_
      refine jr.istore_n (ls' := [_, _, _]) rfl (nlt rfl) rfl ?_
      refine jr.aload_n rfl rfl ?_
      refine jr.getf (i := 3) (v := .ref 600) rfl rfl (nlt rfl) rfl (nlt rfl) rfl rfl rfl rfl ?_
      refine jr.iload_n rfl rfl ?_
      refine jr.iconst rfl ?_
      refine jr.iast (i := x) (x := (-1)) rfl (nlt rfl) rfl (Nat.le_of_ble_eq_true rfl) (by omega) (by omega) ?_
      refine jr.aload_n rfl rfl ?_
      refine jr.getf (i := 5) (v := .ref 602) rfl rfl (nlt rfl) rfl (nlt rfl) rfl rfl rfl rfl ?_
      refine jr.iload_n rfl rfl ?_
      refine jr.lconst (x := 0) rfl (by decide) ?_
      refine jr.last (i := x) (x := 0) rfl (nlt rfl) rfl (Nat.le_of_ble_eq_true rfl) (by omega) (by omega) ?_
      refine jr.iload_n rfl rfl ?_
      exact jr.ireturn rfl rfl rfl (q _ _ (RI.u (RI.u hI_M (a := 600) (i := x) (by rw [xri_row rfl rfl]; show (-1 : Int) ≤ _ ∧ _ ≤ (400 : Int); omega)) (a := 602) (i := x) (by rw [xri_row rfl rfl]; show (-9223372036854775808 : Int) ≤ _ ∧ _ ≤ (9223372036854775807 : Int); omega)) (RH.o (RH.o hH_M (by decide) (by decide) (by decide)) (by decide) (by decide) (by decide)) (RF.o (RF.o hS_M (by decide) (by decide)) (by decide) (by decide))  (by omega) (Or.inr ⟨by omega, by omega, rfl⟩) (fun a i f600 f602 => ((ju_c _ _ f602).trans ((ju_c _ _ f600).trans rfl))) (fun i g1 => ((ju_c _ _ (by decide)).trans ((ju_c _ _ (by decide)).trans rfl))))
    · refine jr.iconst rfl ?_
      refine jr.goto rfl rfl ?_
      refine jr.istore_n (ls' := [_, _, _]) rfl (nlt rfl) rfl ?_
      refine jr.aload_n rfl rfl ?_
      refine jr.getf (i := 3) (v := .ref 600) rfl rfl (nlt rfl) rfl (nlt rfl) rfl rfl rfl rfl ?_
      refine jr.iload_n rfl rfl ?_
      refine jr.iconst rfl ?_
      refine jr.iast (i := x) (x := (-1)) rfl (nlt rfl) rfl (Nat.le_of_ble_eq_true rfl) (by omega) (by omega) ?_
      refine jr.aload_n rfl rfl ?_
      refine jr.getf (i := 5) (v := .ref 602) rfl rfl (nlt rfl) rfl (nlt rfl) rfl rfl rfl rfl ?_
      refine jr.iload_n rfl rfl ?_
      refine jr.lconst (x := 0) rfl (by decide) ?_
      refine jr.last (i := x) (x := 0) rfl (nlt rfl) rfl (Nat.le_of_ble_eq_true rfl) (by omega) (by omega) ?_
      refine jr.iload_n rfl rfl ?_
      exact jr.ireturn rfl rfl rfl (q _ _ (RI.u (RI.u hI_M (a := 600) (i := x) (by rw [xri_row rfl rfl]; show (-1 : Int) ≤ _ ∧ _ ≤ (400 : Int); omega)) (a := 602) (i := x) (by rw [xri_row rfl rfl]; show (-9223372036854775808 : Int) ≤ _ ∧ _ ≤ (9223372036854775807 : Int); omega)) (RH.o (RH.o hH_M (by decide) (by decide) (by decide)) (by decide) (by decide) (by decide)) (RF.o (RF.o hS_M (by decide) (by decide)) (by decide) (by decide))  (by omega) (Or.inr ⟨by omega, by omega, rfl⟩) (fun a i f600 f602 => ((ju_c _ _ f602).trans ((ju_c _ _ f600).trans rfl))) (fun i g1 => ((ju_c _ _ (by decide)).trans ((ju_c _ _ (by decide)).trans rfl))))
  · refine jr.if_ne rfl rfl (by first | exact rgl rfl | omega) (fun h => absurd h (by decide)) (fun _ => ?_)
    refine jr.bipush rfl (by decide) ?_
    exact jr.ireturn rfl rfl rfl (q _ _ hI_M hH_M hS_M  (by first | exact rgq rfl | omega) (Or.inl ⟨by omega, by omega, rfl⟩) (fun a i f600 f602 => rfl) (fun i g1 => rfl))
/-- bytes of packet x after a copy of S bytes -/
noncomputable def pk6 (f g : Int → Int) (x S : Int) : Int → Int := fun k => if 400 * x ≤ k ∧ k < 400 * x + S then g (k - 400 * x) else f k
theorem pk6_0 (f g : Int → Int) (x : Int) : f = pk6 f g x 0 := by
  funext k
  unfold pk6
  rw [if_neg (by omega)]
theorem pk6_s {M : jm} {f g : Int → Int} {x k v : Int} (h : M 601 = pk6 f g x k) (h0 : 0 ≤ k) (hv : g k = v) : ju M 601 ((400 * x) + k) v 601 = pk6 f g x (k + 1) := by
  funext j
  by_cases q : j = 400 * x + k
  · subst q
    rw [ju_same]
    unfold pk6
    rw [if_pos (by omega), show 400 * x + k - 400 * x = k by omega, hv]
  · rw [ju_i M v q, h]
    unfold pk6
    by_cases q2 : 400 * x ≤ j ∧ j < 400 * x + k
    · rw [if_pos q2, if_pos (by omega)]
    · rw [if_neg q2, if_neg (by omega)]
theorem ju6_row {M : jm} {a c : Nat} {i v : Int} (h : c ≠ a) : ju M a i v c = M c := funext (fun k => ju_c M v h)
theorem r_packet_L22_x {A : Nat → Option (Nat × (Nat → Int32))} {Q : Option Value → jm → Prop} {M0 : jm} {x0 : Int} (q : ∀ (r : Int) (M' : jm), RI M' → RH M' → RF M' → (-3) ≤ r ∧ r ≤ 400 → (((x0 < 0 ∨ 23 < x0 ∨ 400 < M0 598 1) ∧ r = -3 ∧ M' 598 1 = M0 598 1 ∧ M' 600 = M0 600 ∧ M' 601 = M0 601) ∨ ((0 ≤ x0 ∧ x0 ≤ 23) ∧ M0 598 1 ≤ 400 ∧ r = M0 598 1 ∧ M' 598 1 = 0 ∧ M' 601 = pk6 (M0 601) (M0 599) x0 (M0 598 1) ∧ (∀ j : Int, j ≠ x0 → M' 600 j = M0 600 j) ∧ M' 600 x0 = M0 598 1)) → (∀ (a : Nat) (i : Int), a ≠ 598 → a ≠ 600 → a ≠ 601 → a ≠ 602 → M' a i = M0 a i) → (∀ (i : Int), i ≠ 1 → M' 598 i = M0 598 i) → Q (some (.int (Int32.ofInt r))) M') : ∀ (nM : Nat) (M : jm) (k : Int) (x : Int), RI M → RH M → RF M → (∀ (a : Nat) (i : Int), a ≠ 598 → a ≠ 600 → a ≠ 601 → a ≠ 602 → M a i = M0 a i) → (∀ (i : Int), i ≠ 1 → M 598 i = M0 598 i) → 0 ≤ k ∧ k ≤ 400 → 0 ≤ x ∧ x ≤ 23 → 0 ≤ M 598 1 ∧ M 598 1 ≤ 400 → M 601 = pk6 (M0 601) (M0 599) x k → M 598 1 = M0 598 1 ∧ k ≤ M 598 1 ∧ M0 598 1 ≤ 400 → M 600 = M0 600 → x = x0 → 400 - k ≤ nM → jr A 2 xm_248 22 [(2, .int (Int32.ofInt (k))), (1, .int (Int32.ofInt (x))), (0, .ref (598))] [] M Q := by
  intro nM
  induction nM using Nat.strongRecOn with
  | ind nM ih =>
    intro M k x hI_M hH_M hS_M hF_M hG_M h_k h_x hy0 hy1 hy2 hy3 hy4 hm
    subst hy4
    refine jr.iload_n rfl rfl ?_
    refine jr.aload_n rfl rfl ?_
    obtain ⟨v1, e1⟩ : ∃ z, M 598 1 = z := ⟨_, rfl⟩
    have b1 : 0 ≤ v1 ∧ v1 ≤ 1600 := by rw [← e1]; exact hI_M 598 1 (Nat.le_of_ble_eq_true rfl)
    refine jr.getf (i := 1) (x := v1) (v := .int (Int32.ofInt (v1))) rfl rfl (nlt rfl) rfl (nlt rfl) rfl rfl e1 rfl ?_
    refine jr.icmp_ge rfl rfl (by first | (refine rgb (by assumption) ?_; exact rfl) | omega) (by first | (refine rgb (by assumption) ?_; exact rfl) | omega) (fun h27 => ?_) (fun h27 => ?_)
    · refine jr.aload_n rfl rfl ?_
      refine jr.getf (i := 3) (v := .ref 600) rfl rfl (nlt rfl) rfl (nlt rfl) rfl rfl rfl rfl ?_
      refine jr.iload_n rfl rfl ?_
      refine jr.aload_n rfl rfl ?_
      refine jr.getf (i := 1) (x := v1) (v := .int (Int32.ofInt (v1))) rfl rfl (nlt rfl) rfl (nlt rfl) rfl rfl e1 rfl ?_
      refine jr.iast (i := x) (x := v1) rfl (nlt rfl) rfl (Nat.le_of_ble_eq_true rfl) (by omega) (by omega) ?_
      refine jr.aload_n rfl rfl ?_
      refine jr.getf (i := 5) (v := .ref 602) rfl rfl (nlt rfl) rfl (nlt rfl) rfl rfl rfl rfl ?_
      refine jr.iload_n rfl rfl ?_
      refine jr.lconst (x := 0) rfl (by decide) ?_
      refine jr.last (i := x) (x := 0) rfl (nlt rfl) rfl (Nat.le_of_ble_eq_true rfl) (by omega) (by omega) ?_
      refine jr.aload_n rfl rfl ?_
      refine jr.iconst rfl ?_
      refine jr.putf (i := 1) (x := 0) rfl rfl (nlt rfl) rfl (nlt rfl) rfl rfl rfl rfl rfl ?_
      refine jr.aload_n rfl rfl ?_
      refine jr.getf (i := 3) (v := .ref 600) rfl rfl (nlt rfl) rfl (nlt rfl) rfl rfl rfl rfl ?_
      refine jr.iload_n rfl rfl ?_
      refine jr.iald (i := x) (x := v1) rfl (nlt rfl) rfl (Nat.le_of_ble_eq_true rfl) (by omega) (by omega) ((ju_c _ _ (by decide)).trans ((ju_c _ _ (by decide)).trans (ju_same _ _ _ _))) ?_
      exact jr.ireturn rfl rfl rfl (q _ _ (RI.u (RI.u (RI.u hI_M (a := 600) (i := x) (by rw [xri_row rfl rfl]; show (-1 : Int) ≤ _ ∧ _ ≤ (400 : Int); omega)) (a := 602) (i := x) (by rw [xri_row rfl rfl]; show (-9223372036854775808 : Int) ≤ _ ∧ _ ≤ (9223372036854775807 : Int); omega)) (a := 598) (i := 1) (show (0 : Int) ≤ _ ∧ _ ≤ (1600 : Int) from by omega)) (RH.o (RH.o (RH.o hH_M (by decide) (by decide) (by decide)) (by decide) (by decide) (by decide)) (by decide) (by decide) (by decide)) (RF.o (RF.o (RF.o hS_M (by decide) (by decide)) (by decide) (by decide)) (by decide) (by decide))  (by omega) (Or.inr ⟨by omega, by omega, by have h9 := hy2; omega, by have hq : (ju (ju (ju M 600 x v1) 602 x 0) 598 1 0) 598 1 = 0 := (ju_same _ _ _ _); omega, by rw [ju6_row (by decide), ju6_row (by decide), ju6_row (by decide), hy1, show k = M0 598 1 from by have h9 := hy2; omega], fun j hj => by rw [ju_c _ _ (by decide), ju_c _ _ (by decide), ju_i _ _ hj]; exact congrFun hy3 j, by have hq : (ju (ju (ju M 600 x v1) 602 x 0) 598 1 0) 600 x = v1 := ((ju_c _ _ (by decide)).trans ((ju_c _ _ (by decide)).trans (ju_same _ _ _ _))); have h9 := hy2; omega⟩) (fun a i f598 f600 f601 f602 => ((ju_c _ _ f598).trans ((ju_c _ _ f602).trans ((ju_c _ _ f600).trans (hF_M a i f598 f600 f601 f602))))) (fun i g1 => ((ju_i _ _ g1).trans ((ju_c _ _ (by decide)).trans ((ju_c _ _ (by decide)).trans (hG_M i g1))))))
    · refine jr.aload_n rfl rfl ?_
      refine jr.getf (i := 4) (v := .ref 601) rfl rfl (nlt rfl) rfl (nlt rfl) rfl rfl rfl rfl ?_
      refine jr.sipush rfl (by decide) ?_
      refine jr.iload_n rfl rfl ?_
      refine jr.imul rfl ?_
      refine jr.iload_n rfl rfl ?_
      refine jr.iadd rfl ?_
      refine jr.aload_n rfl rfl ?_
      refine jr.getf (i := 0) (v := .ref 599) rfl rfl (nlt rfl) rfl (nlt rfl) rfl rfl rfl rfl ?_
      refine jr.iload_n rfl rfl ?_
      obtain ⟨v2, e2⟩ : ∃ z, M 599 k = z := ⟨_, rfl⟩
      have b2 : 0 ≤ v2 ∧ v2 ≤ 255 := by rw [← e2]; exact (by have q := hI_M 599 k (Nat.le_of_ble_eq_true rfl); rw [xri_row rfl rfl] at q; exact q)
      refine jr.iald (i := k) (x := v2) rfl (nlt rfl) rfl (Nat.le_of_ble_eq_true rfl) (by omega) (by omega) e2 ?_
      refine jr.iast (i := ((400 * x) + k)) (x := v2) rfl (nlt rfl) rfl (Nat.le_of_ble_eq_true rfl) (by omega) (by omega) ?_
      refine jr.iinc (ls' := [_, _, _]) rfl rfl (nlt rfl) rfl ?_
      refine jr.goto rfl rfl ?_
      refine jr.pick (ls := [_, _, _]) [0, 1, 2] rfl rfl ?_
      exact ih (nM - 1) (by omega) (ju M 601 ((400 * x) + k) v2) (k + 1) x (RI.u hI_M (a := 601) (i := ((400 * x) + k)) (by rw [xri_row rfl rfl]; show (0 : Int) ≤ _ ∧ _ ≤ (255 : Int); omega)) (RH.o hH_M (by decide) (by decide) (by decide)) (RF.o hS_M (by decide) (by decide))  (fun a i f598 f600 f601 f602 => ((ju_c _ _ f601).trans (hF_M a i f598 f600 f601 f602))) (fun i g1 => ((ju_c _ _ (by decide)).trans (hG_M i g1))) (by omega) (by omega) (by rw [((ju_c _ _ (by decide)).trans e1)]; omega) (pk6_s hy1 (by omega) ((hF_M 599 k (nne rfl) (nne rfl) (nne rfl) (nne rfl)).symm.trans e2)) (by rw [ju_c _ _ (by decide)]; omega) (by rw [ju6_row (by decide)]; exact hy3) (by omega) (by omega)
theorem r_packet_x {A : Nat → Option (Nat × (Nat → Int32))} {Q : Option Value → jm → Prop} {M : jm} (hI_M : RI M) (hH_M : RH M) (hS_M : RF M) {x : Int} (h_x : (-2147483648) ≤ x ∧ x ≤ 2147483647) (q : ∀ (r : Int) (M' : jm), RI M' → RH M' → RF M' → (-3) ≤ r ∧ r ≤ 400 → (((x < 0 ∨ 23 < x ∨ 400 < M 598 1) ∧ r = -3 ∧ M' 598 1 = M 598 1 ∧ M' 600 = M 600 ∧ M' 601 = M 601) ∨ ((0 ≤ x ∧ x ≤ 23) ∧ M 598 1 ≤ 400 ∧ r = M 598 1 ∧ M' 598 1 = 0 ∧ M' 601 = pk6 (M 601) (M 599) x (M 598 1) ∧ (∀ j : Int, j ≠ x → M' 600 j = M 600 j) ∧ M' 600 x = M 598 1)) → (∀ (a : Nat) (i : Int), a ≠ 598 → a ≠ 600 → a ≠ 601 → a ≠ 602 → M' a i = M a i) → (∀ (i : Int), i ≠ 1 → M' 598 i = M 598 i) → Q (some (.int (Int32.ofInt r))) M') : jc A 3 248 [.ref (598), .int (Int32.ofInt (x))] M Q := by
  refine jc_of (m := xm_248) rfl (Nat.le_of_ble_eq_true rfl) rfl ?_
  refine jr.iload_n rfl rfl ?_
  refine jr_s rfl rfl (Or.inl rfl) ⟨Nat.le_of_ble_eq_true rfl, Nat.le_of_ble_eq_true rfl⟩ rfl rfl (jc.deep (c_isPN (by omega) (fun l1 u1 => ?_) (fun n1 => ?_)) (Nat.le_of_ble_eq_true rfl))
  · refine jr.if_eq rfl rfl (by first | exact rgl rfl | omega) (fun h => absurd h (by decide)) (fun _ => ?_)
    refine jr.aload_n rfl rfl ?_
    obtain ⟨v1, e1⟩ : ∃ z, M 598 1 = z := ⟨_, rfl⟩
    have b1 : 0 ≤ v1 ∧ v1 ≤ 1600 := by rw [← e1]; exact hI_M 598 1 (Nat.le_of_ble_eq_true rfl)
    refine jr.getf (i := 1) (x := v1) (v := .int (Int32.ofInt (v1))) rfl rfl (nlt rfl) rfl (nlt rfl) rfl rfl e1 rfl ?_
    refine jr.sipush rfl (by decide) ?_
    refine jr.icmp_le rfl rfl (by first | (refine rgb (by assumption) ?_; exact rfl) | omega) (rgl rfl) (fun h14 => ?_) (fun h14 => ?_)
    · refine jr.iconst rfl ?_
      refine jr.istore_n (ls' := [_, _, _]) rfl (nlt rfl) rfl ?_
      refine jr.pick (ls := [_, _, _]) [0, 2, 1] rfl rfl ?_
      exact r_packet_L22_x q 400 M 0 x hI_M hH_M hS_M  (fun a i f598 f600 f601 f602 => rfl) (fun i g1 => rfl) (by omega) (by omega) (by omega) (pk6_0 _ _ _) (by omega) rfl (by omega) (by omega)
    · refine jr.bipush rfl (by decide) ?_
      exact jr.ireturn rfl rfl rfl (q _ _ hI_M hH_M hS_M  (by first | exact rgq rfl | omega) (Or.inl ⟨by omega, by omega, rfl, rfl, rfl⟩) (fun a i f598 f600 f601 f602 => rfl) (fun i g1 => rfl))
  · refine jr.if_eq rfl rfl (by first | exact rgl rfl | omega) (fun _ => ?_) (fun h => absurd (by decide) h)
    refine jr.bipush rfl (by decide) ?_
    exact jr.ireturn rfl rfl rfl (q _ _ hI_M hH_M hS_M  (by first | exact rgq rfl | omega) (Or.inl ⟨by omega, by omega, rfl, rfl, rfl⟩) (fun a i f598 f600 f601 f602 => rfl) (fun i g1 => rfl))
theorem r_digest_L17_x {A : Nat → Option (Nat × (Nat → Int32))} {Q : Option Value → jm → Prop} {M0 : jm} {x0 : Int} (q : ∀ (r : Int) (M' : jm), RI M' → RH M' → RF M' → (-9223372036854775808) ≤ r ∧ r ≤ 9223372036854775807 → (((x0 < 0 ∨ 23 < x0 ∨ M' 600 x0 = -1) ∧ r = 0) ∨ ((0 ≤ x0 ∧ x0 ≤ 23) ∧ M' 600 x0 ≠ -1 ∧ r = dg (fun j => M' 601 (400 * x0 + j)) (M' 600 x0).toNat)) → (∀ (a : Nat) (i : Int), a ≠ 603 → M' a i = M0 a i) → Q (some (.long (Int64.ofInt r))) M') : ∀ (nM : Nat) (M : jm) (k : Int) (d : Int) (x : Int), RI M → RH M → RF M → (∀ (a : Nat) (i : Int), a ≠ 603 → M a i = M0 a i) → 0 ≤ k ∧ k ≤ 400 → (-9223372036854775808) ≤ d ∧ d ≤ 9223372036854775807 → 0 ≤ x ∧ x ≤ 23 → M 600 x ≠ -1 ∧ k ≤ M 600 x → d = dg (fun j => M 601 (400 * x + j)) k.toNat → x = x0 → 400 - k ≤ nM → jr A 3 xm_252 17 [(4, .int (Int32.ofInt (k))), (2, .long (Int64.ofInt (d))), (1, .int (Int32.ofInt (x))), (0, .ref (598))] [] M Q := by
  intro nM
  induction nM using Nat.strongRecOn with
  | ind nM ih =>
    intro M k d x hI_M hH_M hS_M hF_M h_k h_d h_x hy0 hy1 hy2 hm
    subst hy2
    refine jr.iload rfl rfl ?_
    refine jr.aload_n rfl rfl ?_
    refine jr.getf (i := 3) (v := .ref 600) rfl rfl (nlt rfl) rfl (nlt rfl) rfl rfl rfl rfl ?_
    refine jr.iload_n rfl rfl ?_
    obtain ⟨v1, e1⟩ : ∃ z, M 600 x = z := ⟨_, rfl⟩
    have b1 : (-1) ≤ v1 ∧ v1 ≤ 400 := by rw [← e1]; exact (by have q := hI_M 600 x (Nat.le_of_ble_eq_true rfl); rw [xri_row rfl rfl] at q; exact q)
    refine jr.iald (i := x) (x := v1) rfl (nlt rfl) rfl (Nat.le_of_ble_eq_true rfl) (by omega) (by omega) e1 ?_
    refine jr.icmp_ge rfl rfl (by first | (refine rgb (by assumption) ?_; exact rfl) | omega) (by first | (refine rgb (by assumption) ?_; exact rfl) | omega) (fun h25 => ?_) (fun h25 => ?_)
    · refine jr.lload_n rfl rfl ?_
      exact jr.lreturn rfl rfl (q _ _ hI_M hH_M hS_M  (by omega) (Or.inr ⟨by omega, by have h9 := hy0; omega, by rw [hy1, e1, show k = v1 from by have h9 := hy0; omega]⟩) (fun a i f603 => (hF_M a i f603)))
    · refine jr.lload_n rfl rfl ?_
      refine jr.aload_n rfl rfl ?_
      refine jr.getf (i := 4) (v := .ref 601) rfl rfl (nlt rfl) rfl (nlt rfl) rfl rfl rfl rfl ?_
      refine jr.sipush rfl (by decide) ?_
      refine jr.iload_n rfl rfl ?_
      refine jr.imul rfl ?_
      refine jr.iload rfl rfl ?_
      refine jr.iadd rfl ?_
      obtain ⟨v2, e2⟩ : ∃ z, M 601 ((400 * x) + k) = z := ⟨_, rfl⟩
      have b2 : 0 ≤ v2 ∧ v2 ≤ 255 := by rw [← e2]; exact (by have q := hI_M 601 ((400 * x) + k) (by decide); rw [xri_row rfl rfl] at q; exact q)
      refine jr.iald (i := ((400 * x) + k)) (x := v2) rfl (nlt rfl) rfl (Nat.le_of_ble_eq_true rfl) (by omega) (by omega) e2 ?_
      refine jr.i2l rfl (by omega) ?_
      refine jr.lxor rfl ?_
      refine jr.ldc2 (x := 1099511628211) rfl rfl (by decide) ?_
      refine jr.lmul rfl ?_
      refine jr.lw (jl_w ((jl_xor d v2) * 1099511628211)) (jl_w_eq _) ?_
      have b3 : -9223372036854775808 ≤ jl_w ((jl_xor d v2) * 1099511628211) ∧ jl_w ((jl_xor d v2) * 1099511628211) ≤ 9223372036854775807 := jbl_any _
      refine jr.lstore_n (ls' := [_, _, _, _]) rfl (nlt rfl) rfl ?_
      refine jr.iinc (ls' := [_, _, _, _]) rfl rfl (nlt rfl) rfl ?_
      refine jr.goto rfl rfl ?_
      refine jr.pick (ls := [_, _, _, _]) [0, 1, 2, 3] rfl rfl ?_
      exact ih (nM - 1) (by omega) M (k + 1) (jl_w ((jl_xor d v2) * 1099511628211)) x hI_M hH_M hS_M  (fun a i f603 => (hF_M a i f603)) (by omega) (by omega) (by omega) (by omega) (by rw [dg_s (by omega), ← hy1, e2]) (by omega) (by omega)
theorem r_digest_x {A : Nat → Option (Nat × (Nat → Int32))} {Q : Option Value → jm → Prop} {M : jm} (hI_M : RI M) (hH_M : RH M) (hS_M : RF M) {x : Int} (h_x : (-2147483648) ≤ x ∧ x ≤ 2147483647) (q : ∀ (r : Int) (M' : jm), RI M' → RH M' → RF M' → (-9223372036854775808) ≤ r ∧ r ≤ 9223372036854775807 → (((x < 0 ∨ 23 < x ∨ M' 600 x = -1) ∧ r = 0) ∨ ((0 ≤ x ∧ x ≤ 23) ∧ M' 600 x ≠ -1 ∧ r = dg (fun j => M' 601 (400 * x + j)) (M' 600 x).toNat)) → (∀ (a : Nat) (i : Int), a ≠ 603 → M' a i = M a i) → Q (some (.long (Int64.ofInt r))) M') : jc A 4 252 [.ref (598), .int (Int32.ofInt (x))] M Q := by
  refine jc_of (m := xm_252) rfl (Nat.le_of_ble_eq_true rfl) rfl ?_
  refine jr.aload_n rfl rfl ?_
  refine jr.iload_n rfl rfl ?_
  refine jr_v rfl rfl (Or.inl rfl) rfl rfl (nlt rfl) rfl ⟨rfl, Nat.le_of_ble_eq_true rfl, Nat.le_of_ble_eq_true rfl⟩ rfl (jc.deep (c_isThere hI_M (by omega) (fun l2 u2 t2 => ?_) (fun n2 => ?_)) (Nat.le_of_ble_eq_true rfl))
  · refine jr.if_ne rfl rfl (by first | exact rgl rfl | omega) (fun _ => ?_) (fun h => absurd (by decide) h)
    refine jr.ldc2 (x := (-3750763034362895579)) rfl rfl (by decide) ?_
    refine jr.lstore_n (ls' := [_, _, _]) rfl (nlt rfl) rfl ?_
    refine jr.iconst rfl ?_
    refine jr.istore (ls' := [_, _, _, _]) rfl (nlt rfl) rfl ?_
    refine jr.pick (ls := [_, _, _, _]) [0, 1, 3, 2] rfl rfl ?_
    exact r_digest_L17_x q 400 M 0 (-3750763034362895579) x hI_M hH_M hS_M  (fun a i f603 => rfl) (by omega) (by omega) (by omega) (by have nb : (-1 : Int) ≤ M 600 x ∧ M 600 x ≤ 400 := (by have q := hI_M 600 x (Nat.le_of_ble_eq_true rfl); rw [xri_row rfl rfl] at q; exact q); omega) rfl (by omega) (by omega)
  · refine jr.if_ne rfl rfl (by first | exact rgl rfl | omega) (fun h => absurd h (by decide)) (fun _ => ?_)
    refine jr.lconst (x := 0) rfl (by decide) ?_
    exact jr.lreturn rfl rfl (q _ _ hI_M hH_M hS_M  (by omega) (Or.inl ⟨by omega, by omega⟩) (fun a i f603 => rfl))
end
section
/-! ===== numbers of bytes ===== -/
theorem jl_sho {n b : Int} (hn : 0 ≤ n ∧ n < 140737488355328) (hb : 0 ≤ b ∧ b < 256) : jl_or (jl_shl n 8) b = n * 256 + b := by
  obtain ⟨n, rfl⟩ := Int.eq_ofNat_of_zero_le hn.1
  obtain ⟨b, rfl⟩ := Int.eq_ofNat_of_zero_le hb.1
  have hs : jl_shl (n : Int) 8 = ((n * 256 : Nat) : Int) := by
    unfold jl_shl
    have hN : (Int64.ofInt (n : Int) <<< ((Int32.ofInt 8).toInt64 &&& 63)).toBitVec.toNat = n * 256 := by
      rw [Int64.toBitVec_shiftLeft]
      show ((Int64.ofInt (n : Int)).toBitVec <<< (((Int32.ofInt ((8 : Nat) : Int)).toInt64 &&& 63).toBitVec.smod 64).toNat).toNat = _
      rw [jbl_sl 8 (by decide), BitVec.toNat_shiftLeft, jbl_tn, Nat.shiftLeft_eq]
      omega
    rw [jbl_ti, hN]
    split <;> omega
  rw [hs]
  unfold jl_or
  have hN : (Int64.ofInt ((n * 256 : Nat) : Int) ||| Int64.ofInt (b : Int)).toBitVec.toNat = n * 256 + b := by
    rw [Int64.toBitVec_or, BitVec.toNat_or, jbl_tn, jbl_tn]
    rw [show (((n * 256 : Nat) : Int) % 18446744073709551616).toNat = 2 ^ 8 * n by omega, show ((b : Int) % 18446744073709551616).toNat = b by omega]
    rw [← Nat.two_pow_add_eq_or_of_lt (show b < 2 ^ 8 by omega)]
    omega
  rw [jbl_ti, hN]
  split <;> omega
theorem j_sho {n b : Int} (hn : 0 ≤ n ∧ n < 65536) (hb : 0 ≤ b ∧ b < 256) : j_or (j_shl n 8) b = n * 256 + b := by
  obtain ⟨n, rfl⟩ := Int.eq_ofNat_of_zero_le hn.1
  obtain ⟨b, rfl⟩ := Int.eq_ofNat_of_zero_le hb.1
  have hs : j_shl (n : Int) 8 = ((n * 256 : Nat) : Int) := by
    have := j_shl_ex (x := (n : Int)) 8 (by decide) (by omega) (by omega)
    rw [show ((8 : Nat) : Int) = 8 from rfl] at this
    rw [this]
    omega
  rw [hs]
  unfold j_or
  have hN : (Int32.ofInt ((n * 256 : Nat) : Int) ||| Int32.ofInt (b : Int)).toBitVec.toNat = n * 256 + b := by
    rw [Int32.toBitVec_or, BitVec.toNat_or, jb_tn, jb_tn]
    rw [show (((n * 256 : Nat) : Int) % 4294967296).toNat = 2 ^ 8 * n by omega, show ((b : Int) % 4294967296).toNat = b by omega]
    rw [← Nat.two_pow_add_eq_or_of_lt (show b < 2 ^ 8 by omega)]
    omega
  rw [jb_ti, hN]
  split <;> omega
noncomputable def nbs (f : Int → Int) (y : Int) : Nat → Int
  | 0 => 0
  | k + 1 => nbs f y k * 256 + f (y + k)
theorem nbs_s {f : Int → Int} {y i : Int} (h : y ≤ i) : nbs f y (i + 1 - y).toNat = nbs f y (i - y).toNat * 256 + f i := by
  obtain ⟨n, hn⟩ : ∃ n : Nat, i = y + n := ⟨(i - y).toNat, by omega⟩
  subst hn
  rw [show (y + (n : Int) + 1 - y).toNat = n + 1 by omega, show (y + (n : Int) - y).toNat = n by omega]
  rfl
theorem nbs_0 (f : Int → Int) (y : Int) : nbs f y (y - y).toNat = 0 := by
  rw [show (y - y).toNat = 0 by omega]
  rfl
theorem nbs_1 (f : Int → Int) (y : Int) : nbs f y 1 = f y := by
  show 0 * 256 + f (y + ((0 : Nat) : Int)) = f y
  rw [show y + ((0 : Nat) : Int) = y by omega]
  omega
theorem nbs_2 (f : Int → Int) (y : Int) : nbs f y 2 = f y * 256 + f (y + 1) := by
  show nbs f y 1 * 256 + f (y + ((1 : Nat) : Int)) = _
  rw [nbs_1]
  rfl
theorem c_PacketWall_numberAt_px_L5 {A : Nat → Option (Nat × (Nat → Int32))} {Q : Option Value → jm → Prop} {M : jm} (hC_M : CI M) {x : Nat} (k_x : kd x = 34) {y : Int} {z : Int} (q : ∀ (r : Int), (-9223372036854775808) ≤ r ∧ r ≤ 9223372036854775807 → (r = nbs (M x) y z.toNat ∧ 0 ≤ r ∧ r < 4294967296) → Q (some (.long (Int64.ofInt r))) M) : ∀ (nM : Nat) (n : Int) (i : Int), 0 ≤ y ∧ y ≤ 400 → 0 ≤ z ∧ z ≤ 4 → 0 ≤ n ∧ n ≤ 4294967295 → 0 ≤ i ∧ i ≤ 404 → (n = nbs (M x) y (i - y).toNat) → (y ≤ i ∧ i ≤ y + z ∧ y + z ≤ 400) → ((i = y ∧ n = 0) ∨ (i = y + 1 ∧ n < 256) ∨ (i = y + 2 ∧ n < 65536) ∨ (i = y + 3 ∧ n < 16777216) ∨ (i = y + 4 ∧ n < 4294967296)) → (∀ k : Int, 0 ≤ k → k < 400 → 0 ≤ M x k) → y + z - i ≤ nM → jr A 0 xm_52 5 [(1, .int (Int32.ofInt (y))), (2, .int (Int32.ofInt (z))), (3, .long (Int64.ofInt (n))), (5, .int (Int32.ofInt (i))), (0, .ref (x))] [] M Q := by
  intro nM
  induction nM using Nat.strongRecOn with
  | ind nM ih =>
    intro n i h_y h_z h_n h_i hy0 hy1 hy2 hy3 hm
    refine jr.iload rfl rfl ?_
    refine jr.iload_n rfl rfl ?_
    refine jr.iload_n rfl rfl ?_
    refine jr.iadd rfl ?_
    refine jr.icmp_ge rfl rfl (by first | (refine rgb (by assumption) ?_; exact rfl) | omega) (by first | (refine rgb (by assumption) ?_; exact rfl) | omega) (fun h10 => ?_) (fun h10 => ?_)
    · refine jr.lload_n rfl rfl ?_
      exact jr.lreturn rfl rfl (q _ (by omega) ⟨by rw [hy0, show i - y = z from by omega], by omega, by omega⟩)
    · refine jr.lload_n rfl rfl ?_
      refine jr.bipush rfl (jbp _ (nlt rfl)) ?_
      refine jr.lshl rfl ?_
      refine jr.iload rfl rfl ?_
      refine jr.if_lt rfl rfl (by first | (refine rgb (by assumption) ?_; exact rfl) | omega) (fun h19 => ?_) (fun h19 => ?_)
      · exact absurd h19 (by omega)
      · refine jr.iload rfl rfl ?_
        refine jr.aload_n rfl rfl ?_
        refine jr.alen0 (x := 400) rfl (Nat.lt_trans (kx_34 k_x).1 (by decide)) (kx_34 k_x).2 rfl ?_
        refine jr.icmp_ge rfl rfl (by first | (refine rgb (by assumption) ?_; exact rfl) | omega) (by first | (refine rgb (by assumption) ?_; exact rfl) | omega) (fun h26 => ?_) (fun h26 => ?_)
        · refine jr.iconst rfl ?_
          refine jr.i2l rfl (by omega) ?_
          refine jr.lor rfl ?_
          have b1 : jl_or (jl_shl n 8) 0 = n * 256 + 0 := jl_sho (by omega) (by omega)
          generalize jl_or (jl_shl n 8) 0 = v1 at b1 ⊢
          refine jr.lstore_n (ls' := [_, _, _, _, _]) rfl (nlt rfl) rfl ?_
          refine jr.iinc (ls' := [_, _, _, _, _]) rfl rfl (nlt rfl) rfl ?_
          refine jr.goto rfl rfl ?_
          refine jr.pick (ls := [_, _, _, _, _]) [2, 3, 1, 0, 4] rfl rfl ?_
          exact ih (nM - 1) (by omega) v1 (i + 1) (by omega) (by omega) (by omega) (by omega) (by rw [nbs_s (by omega), ← hy0]; omega) (by omega) (by omega) hy3 (by omega)
        · refine jr.aload_n rfl rfl ?_
          refine jr.iload rfl rfl ?_
          obtain ⟨v2, e2⟩ : ∃ z_, M x i = z_ := ⟨_, rfl⟩
          have b2 : (-1) ≤ v2 ∧ v2 ≤ 255 := by rw [← e2]; exact (CI.r hC_M k_x (by decide) i)
          refine jr.iald (i := i) (x := v2) rfl (Nat.lt_trans (kx_34 k_x).1 (by decide)) (kx_34 k_x).2 (by decide) (by omega) (by omega) e2 ?_
          have hb0 := hy3 i (by omega) (by omega)
          refine jr.goto rfl rfl ?_
          refine jr.i2l rfl (by omega) ?_
          refine jr.lor rfl ?_
          have b3 : jl_or (jl_shl n 8) v2 = n * 256 + v2 := jl_sho (by omega) (by omega)
          generalize jl_or (jl_shl n 8) v2 = v3 at b3 ⊢
          refine jr.lstore_n (ls' := [_, _, _, _, _]) rfl (nlt rfl) rfl ?_
          refine jr.iinc (ls' := [_, _, _, _, _]) rfl rfl (nlt rfl) rfl ?_
          refine jr.goto rfl rfl ?_
          refine jr.pick (ls := [_, _, _, _, _]) [2, 3, 1, 0, 4] rfl rfl ?_
          exact ih (nM - 1) (by omega) v3 (i + 1) (by omega) (by omega) (by omega) (by omega) (by rw [nbs_s (by omega), ← hy0]; omega) (by omega) (by omega) hy3 (by omega)
theorem c_PacketWall_numberAt_px {A : Nat → Option (Nat × (Nat → Int32))} {Q : Option Value → jm → Prop} {M : jm} (hC_M : CI M) {x : Nat} (k_x : kd x = 34) {y : Int} (h_y : 0 ≤ y ∧ y ≤ 400) {z : Int} (h_z : 0 ≤ z ∧ z ≤ 4) (p0 : y + z ≤ 400) (p1 : ∀ k : Int, 0 ≤ k → k < 400 → 0 ≤ M x k) (q : ∀ (r : Int), (-9223372036854775808) ≤ r ∧ r ≤ 9223372036854775807 → (r = nbs (M x) y z.toNat ∧ 0 ≤ r ∧ r < 4294967296) → Q (some (.long (Int64.ofInt r))) M) : jc A 1 52 [.ref (x), .int (Int32.ofInt (y)), .int (Int32.ofInt (z))] M Q := by
  refine jc_of (m := xm_52) rfl (Nat.le_of_ble_eq_true rfl) rfl ?_
  refine jr.lconst (x := 0) rfl (by decide) ?_
  refine jr.lstore_n (ls' := [_, _, _, _]) rfl (nlt rfl) rfl ?_
  refine jr.iload_n rfl rfl ?_
  refine jr.istore (ls' := [_, _, _, _, _]) rfl (nlt rfl) rfl ?_
  refine jr.pick (ls := [_, _, _, _, _]) [3, 4, 1, 0, 2] rfl rfl ?_
  exact c_PacketWall_numberAt_px_L5 hC_M k_x q 4 0 y (by omega) (by omega) (by omega) (by omega) (nbs_0 _ _).symm (by omega) (by omega) p1 (by omega)
end
section
/-! ===== headers: what a step finds ===== -/
noncomputable def hb (f : Int → Int) (n i : Int) : Int := if 0 ≤ i ∧ i < n then f i else 0
noncomputable def tw (f : Int → Int) (i : Int) : Int := f i * 256 + f (i + 1)
noncomputable def hls (k : Int) : Int := if k = 0 ∨ k = 1 ∨ k = 10 then 4 else if k = 2 ∨ k = 8 then 20 else if k = 3 then 24 else if k = 4 ∨ k = 5 then 2 else if k = 11 then 1 else 8
theorem hls_c0 : ∀ j : Nat, j < 12 → (xv_1.getD j 0).toInt = hls (j : Int) := by decide +kernel
theorem hls_c {k : Int} (h0 : 0 ≤ k) (h1 : k < 12) : xcv_1 k = hls k := by
  have q := hls_c0 k.toNat (by omega)
  rw [Int.toNat_of_nonneg h0] at q
  exact q
theorem hls_r (k : Int) : 1 ≤ hls k ∧ hls k ≤ 24 := by
  unfold hls
  repeat' split
  all_goals omega
/-- the bytes of a packet's row -/
noncomputable def BY8 (M : jm) (c : Nat) (f : Int → Int) : Prop := ∀ i : Int, 0 ≤ i → i < 400 → M c i = f i ∧ 0 ≤ f i ∧ f i ≤ 255
theorem BY8.fr {W : List (Nat × Nat)} {T M : jm} {c : Nat} {f : Int → Int} (h : BY8 T c f) (hk : kd c = 34) (hf : FR W T M) (h1 : ksep W [(34, 1000)] = true) : BY8 M c f := fun i h0 h2 => by
  rw [hf.s h1 hk 1000 (by decide) i (Or.inl rfl)]
  exact h i h0 h2
noncomputable def hsZ (f : Int → Int) (n k a : Int) : Int := if k = 2 then 4 * (hb f n a % 16) else if k = 8 then 4 * (hb f n (a + 12) / 16) else if k = 4 ∨ k = 5 then 8 * hb f n (a + 1) + 8 else if k = 11 then n - a else hls k
noncomputable def hsM (bk k : Int) : Prop := (k = 4 ∧ bk ≠ 3) ∨ ((k = 6 ∨ k = 5) ∧ bk ≠ 3 ∧ bk ≠ 4 ∧ bk ≠ 5)
noncomputable def hsT (f : Int → Int) (n k a : Int) : Prop := (k = 2 ∧ tw f (a + 2) ≠ n - a) ∨ (k = 3 ∧ tw f (a + 2) ≠ n - a - 24) ∨ (k = 9 ∧ tw f (a + 4) ≠ n - a)
theorem c_Packet_byteAt_h {A : Nat → Option (Nat × (Nat → Int32))} {Q : Option Value → jm → Prop} {f : Int → Int} {M : jm} (hC_M : CI M) {t : Nat} (k_t : kd t = 33) {x : Int} (h_x : (-2147483648) ≤ x ∧ x ≤ 2147483647) {N : Int} (g_N : M t 1 = N) (p0 : BY8 M (t + 1) f) (q : ∀ (r : Int), (-1) ≤ r ∧ r ≤ 255 → (r = hb f N x ∧ 0 ≤ r) → Q (some (.int (Int32.ofInt r))) M) : jc A 1 192 [.ref (t), .int (Int32.ofInt (x))] M Q := by
  have k_by : kd (t + 1) = 34 := (kf_33_0 k_t).2
  refine jc_of (m := xm_192) rfl (Nat.le_of_ble_eq_true rfl) rfl ?_
  have b_N : (-1) ≤ N ∧ N ≤ 400 := by rw [← g_N]; exact (CI.r hC_M k_t (by decide) 1)
  refine jr.iload_n rfl rfl ?_
  refine jr.if_lt rfl rfl (by first | (refine rgb (by assumption) ?_; exact rfl) | omega) (fun h1 => ?_) (fun h1 => ?_)
  · refine jr.iconst rfl ?_
    exact jr.ireturn rfl rfl rfl (q _ (by first | exact rgq rfl | omega) (by first | (have hq := p0 x (by omega) (by omega); unfold hb; rw [if_pos (by omega)]; omega) | (unfold hb; rw [if_neg (by omega)]; omega)))
  · refine jr.iload_n rfl rfl ?_
    refine jr.aload_n rfl rfl ?_
    refine jr.getf (i := 1) (x := N) (v := .int (Int32.ofInt (N))) rfl rfl (Nat.lt_trans (kx_33 k_t).1 (by decide)) (kx_33 k_t).2 (by decide) rfl rfl g_N rfl ?_
    refine jr.icmp_ge rfl rfl (by first | (refine rgb (by assumption) ?_; exact rfl) | omega) (by first | (refine rgb (by assumption) ?_; exact rfl) | omega) (fun h9 => ?_) (fun h9 => ?_)
    · refine jr.iconst rfl ?_
      exact jr.ireturn rfl rfl rfl (q _ (by first | exact rgq rfl | omega) (by first | (have hq := p0 x (by omega) (by omega); unfold hb; rw [if_pos (by omega)]; omega) | (unfold hb; rw [if_neg (by omega)]; omega)))
    · refine jr.aload_n rfl rfl ?_
      have k1 := kf_33_0 k_t
      refine jr.getf (i := 0) (v := .ref (t + 1)) rfl rfl (Nat.lt_trans (kx_33 k_t).1 (by decide)) (kx_33 k_t).2 (by decide) rfl rfl rfl (jval_ref rfl k1.1) ?_
      refine jr.iload_n rfl rfl ?_
      obtain ⟨v2, e2⟩ : ∃ z_, M ((t + 1)) x = z_ := ⟨_, rfl⟩
      have b2 : (-1) ≤ v2 ∧ v2 ≤ 255 := by rw [← e2]; exact (CI.r hC_M k1.2 (by decide) x)
      refine jr.iald (i := x) (x := v2) rfl (Nat.lt_trans (kx_34 k1.2).1 (by decide)) (kx_34 k1.2).2 (by decide) (by omega) (by omega) e2 ?_
      refine jr.goto rfl rfl ?_
      exact jr.ireturn rfl rfl rfl (q _ (by omega) (by first | (have hq := p0 x (by omega) (by omega); unfold hb; rw [if_pos (by omega)]; omega) | (unfold hb; rw [if_neg (by omega)]; omega)))
theorem c_Packet_numberFrom_h {A : Nat → Option (Nat × (Nat → Int32))} {Q : Option Value → jm → Prop} {f : Int → Int} {M : jm} (hC_M : CI M) {t : Nat} (k_t : kd t = 33) {x : Int} (h_x : 0 ≤ x ∧ x ≤ 398) (p0 : BY8 M (t + 1) f) (q : ∀ (r : Int), 0 ≤ r ∧ r ≤ 65535 → (r = tw f x ∧ 0 ≤ r ∧ r ≤ 65535) → Q (some (.long (Int64.ofInt r))) M) : jc A 2 193 [.ref (t), .int (Int32.ofInt (x)), .int (Int32.ofInt (2))] M Q := by
  have k_by : kd (t + 1) = 34 := (kf_33_0 k_t).2
  refine jc_of (m := xm_193) rfl (Nat.le_of_ble_eq_true rfl) rfl ?_
  refine jr.aload_n rfl rfl ?_
  have k1 := kf_33_0 k_t
  refine jr.getf (i := 0) (v := .ref (t + 1)) rfl rfl (Nat.lt_trans (kx_33 k_t).1 (by decide)) (kx_33 k_t).2 (by decide) rfl rfl rfl (jval_ref rfl k1.1) ?_
  refine jr.iload_n rfl rfl ?_
  refine jr.iload_n rfl rfl ?_
  refine jr_s rfl rfl (Or.inr rfl) ⟨Nat.le_of_ble_eq_true rfl, Nat.le_of_ble_eq_true rfl⟩ rfl rfl (jc.deep (c_PacketWall_numberAt_px hC_M k1.2 (by omega) (by omega) (by omega) (fun k h0 h1 => by have hq := p0 k h0 h1; omega) (fun r2 z2 w2_0 => ?_)) (Nat.le_of_ble_eq_true rfl))
  have hv2 : 0 ≤ r2 ∧ r2 ≤ 65535 := (by have h1 := w2_0; have h2 := p0 x (by omega) (by omega); have h3 := p0 (x + 1) (by omega) (by omega); rw [show (2 : Int).toNat = 2 from rfl, nbs_2] at h1; omega)
  exact jr.lreturn rfl rfl (q _ (by omega) (by have h1 := w2_0; have h2 := p0 x (by omega) (by omega); have h3 := p0 (x + 1) (by omega) (by omega); rw [show (2 : Int).toNat = 2 from rfl, nbs_2] at h1; unfold tw; omega))
theorem c_Headers_fullSize_x {A : Nat → Option (Nat × (Nat → Int32))} {Q : Option Value → jm → Prop} {f : Int → Int} {M : jm} (hC_M : CI M) {t : Nat} (k_t : kd t = 18) {x : Int} (h_x : 0 ≤ x ∧ x ≤ 11) {y : Int} (h_y : 0 ≤ y ∧ y ≤ 400) {S : Int} (g_S : M t 7 = S) {N : Int} (g_N : M ((S.toNat)) 1 = N) (p0 : BY8 M (S.toNat + 1) f) (q : ∀ (r : Int), (-401) ≤ r ∧ r ≤ 2048 → (r = hsZ f N x y) → Q (some (.int (Int32.ofInt r))) M) : jc A 2 130 [.ref (t), .int (Int32.ofInt (x)), .int (Int32.ofInt (y))] M Q := by
  refine jc_of (m := xm_130) rfl (Nat.le_of_ble_eq_true rfl) rfl ?_
  have k_S : kd S.toNat = 33 := (congrArg (fun z : Int => kd z.toNat) g_S).symm.trans (CI.x hC_M k_t 7 rfl (by decide))
  have b_N : (-1) ≤ N ∧ N ≤ 400 := by rw [← g_N]; exact (CI.r hC_M k_S (by decide) 1)
  have k_by : kd (S.toNat + 1) = 34 := (kf_33_0 k_S).2
  refine jr.iload_n rfl rfl ?_
  rcases (show x = 2 ∨ x = 3 ∨ x = 4 ∨ x = 5 ∨ x = 6 ∨ x = 7 ∨ x = 8 ∨ x = 9 ∨ x = 10 ∨ x = 11 ∨ (x ≠ 2 ∧ x ≠ 3 ∧ x ≠ 4 ∧ x ≠ 5 ∧ x ≠ 6 ∧ x ≠ 7 ∧ x ≠ 8 ∧ x ≠ 9 ∧ x ≠ 10 ∧ x ≠ 11) by omega) with h1 | h1 | h1 | h1 | h1 | h1 | h1 | h1 | h1 | h1 | h1
  · refine jr.tsw_k 2 rfl h1 rfl ?_
    refine jr.iconst rfl ?_
    refine jr.aload_n rfl rfl ?_
    refine jr.getf (i := 7) (x := S) (v := .ref (S.toNat)) rfl rfl (Nat.lt_trans (kx_18 k_t).1 (by decide)) (kx_18 k_t).2 (by decide) rfl rfl g_S (jval_mut rfl (kn_18_7 k_t)) ?_
    refine jr.iload_n rfl rfl ?_
    refine jr_v rfl rfl (Or.inl rfl) rfl rfl (Nat.lt_trans (kx_33 k_S).1 (by decide)) (kx_33 k_S).2 ⟨rfl, Nat.le_of_ble_eq_true rfl, Nat.le_of_ble_eq_true rfl⟩ rfl (jc.deep (c_Packet_byteAt_h hC_M k_S (by omega) g_N p0 (fun r2 z2 w2_0 => ?_)) (Nat.le_of_ble_eq_true rfl))
    refine jr.bipush rfl (jbp _ (nlt rfl)) ?_
    refine jr.iand rfl ?_
    have b3 : j_and r2 15 = r2 % 16 := j_and_m 4 (by decide) _
    generalize j_and r2 15 = v3 at b3 ⊢
    refine jr.imul rfl ?_
    exact jr.ireturn rfl rfl rfl (q _ (by omega) (by unfold hsZ; (repeat' split) <;> omega))
  · refine jr.tsw_k 3 rfl h1 rfl ?_
    refine jr.gst (v := .ref 1000001) rfl rfl ?_
    refine jr.iload_n rfl rfl ?_
    obtain ⟨v4, e4⟩ : ∃ z_, xcv_1 x = z_ := ⟨_, rfl⟩
    have b4 : 1 ≤ v4 ∧ v4 ≤ 24 := by rw [← e4]; exact xcr_1 (by omega) (by omega)
    refine jr.ials (i := x) v4 rfl (by decide) rfl (by decide) (by omega) (by omega) (by rw [← e4]; exact (Int32.ofInt_toInt _).symm) ?_
    have hl1 := hls_c (k := x) (by omega) (by omega)
    exact jr.ireturn rfl rfl rfl (q _ (by omega) (by unfold hsZ; (repeat' split) <;> omega))
  · refine jr.tsw_k 4 rfl h1 rfl ?_
    refine jr.bipush rfl (jbp _ (nlt rfl)) ?_
    refine jr.aload_n rfl rfl ?_
    refine jr.getf (i := 7) (x := S) (v := .ref (S.toNat)) rfl rfl (Nat.lt_trans (kx_18 k_t).1 (by decide)) (kx_18 k_t).2 (by decide) rfl rfl g_S (jval_mut rfl (kn_18_7 k_t)) ?_
    refine jr.iload_n rfl rfl ?_
    refine jr.iconst rfl ?_
    refine jr.iadd rfl ?_
    refine jr_v rfl rfl (Or.inl rfl) rfl rfl (Nat.lt_trans (kx_33 k_S).1 (by decide)) (kx_33 k_S).2 ⟨rfl, Nat.le_of_ble_eq_true rfl, Nat.le_of_ble_eq_true rfl⟩ rfl (jc.deep (c_Packet_byteAt_h hC_M k_S (by omega) g_N p0 (fun r6 z6 w6_0 => ?_)) (Nat.le_of_ble_eq_true rfl))
    refine jr.imul rfl ?_
    refine jr.bipush rfl (jbp _ (nlt rfl)) ?_
    refine jr.iadd rfl ?_
    exact jr.ireturn rfl rfl rfl (q _ (by omega) (by unfold hsZ; (repeat' split) <;> omega))
  · refine jr.tsw_k 5 rfl h1 rfl ?_
    refine jr.bipush rfl (jbp _ (nlt rfl)) ?_
    refine jr.aload_n rfl rfl ?_
    refine jr.getf (i := 7) (x := S) (v := .ref (S.toNat)) rfl rfl (Nat.lt_trans (kx_18 k_t).1 (by decide)) (kx_18 k_t).2 (by decide) rfl rfl g_S (jval_mut rfl (kn_18_7 k_t)) ?_
    refine jr.iload_n rfl rfl ?_
    refine jr.iconst rfl ?_
    refine jr.iadd rfl ?_
    refine jr_v rfl rfl (Or.inl rfl) rfl rfl (Nat.lt_trans (kx_33 k_S).1 (by decide)) (kx_33 k_S).2 ⟨rfl, Nat.le_of_ble_eq_true rfl, Nat.le_of_ble_eq_true rfl⟩ rfl (jc.deep (c_Packet_byteAt_h hC_M k_S (by omega) g_N p0 (fun r8 z8 w8_0 => ?_)) (Nat.le_of_ble_eq_true rfl))
    refine jr.imul rfl ?_
    refine jr.bipush rfl (jbp _ (nlt rfl)) ?_
    refine jr.iadd rfl ?_
    exact jr.ireturn rfl rfl rfl (q _ (by omega) (by unfold hsZ; (repeat' split) <;> omega))
  · refine jr.tsw_k 6 rfl h1 rfl ?_
    refine jr.gst (v := .ref 1000001) rfl rfl ?_
    refine jr.iload_n rfl rfl ?_
    obtain ⟨v9, e9⟩ : ∃ z_, xcv_1 x = z_ := ⟨_, rfl⟩
    have b9 : 1 ≤ v9 ∧ v9 ≤ 24 := by rw [← e9]; exact xcr_1 (by omega) (by omega)
    refine jr.ials (i := x) v9 rfl (by decide) rfl (by decide) (by omega) (by omega) (by rw [← e9]; exact (Int32.ofInt_toInt _).symm) ?_
    have hl1 := hls_c (k := x) (by omega) (by omega)
    exact jr.ireturn rfl rfl rfl (q _ (by omega) (by unfold hsZ; (repeat' split) <;> omega))
  · refine jr.tsw_k 7 rfl h1 rfl ?_
    refine jr.gst (v := .ref 1000001) rfl rfl ?_
    refine jr.iload_n rfl rfl ?_
    obtain ⟨v10, e10⟩ : ∃ z_, xcv_1 x = z_ := ⟨_, rfl⟩
    have b10 : 1 ≤ v10 ∧ v10 ≤ 24 := by rw [← e10]; exact xcr_1 (by omega) (by omega)
    refine jr.ials (i := x) v10 rfl (by decide) rfl (by decide) (by omega) (by omega) (by rw [← e10]; exact (Int32.ofInt_toInt _).symm) ?_
    have hl1 := hls_c (k := x) (by omega) (by omega)
    exact jr.ireturn rfl rfl rfl (q _ (by omega) (by unfold hsZ; (repeat' split) <;> omega))
  · refine jr.tsw_k 8 rfl h1 rfl ?_
    refine jr.iconst rfl ?_
    refine jr.aload_n rfl rfl ?_
    refine jr.getf (i := 7) (x := S) (v := .ref (S.toNat)) rfl rfl (Nat.lt_trans (kx_18 k_t).1 (by decide)) (kx_18 k_t).2 (by decide) rfl rfl g_S (jval_mut rfl (kn_18_7 k_t)) ?_
    refine jr.iload_n rfl rfl ?_
    refine jr.bipush rfl (jbp _ (nlt rfl)) ?_
    refine jr.iadd rfl ?_
    refine jr_v rfl rfl (Or.inl rfl) rfl rfl (Nat.lt_trans (kx_33 k_S).1 (by decide)) (kx_33 k_S).2 ⟨rfl, Nat.le_of_ble_eq_true rfl, Nat.le_of_ble_eq_true rfl⟩ rfl (jc.deep (c_Packet_byteAt_h hC_M k_S (by omega) g_N p0 (fun r12 z12 w12_0 => ?_)) (Nat.le_of_ble_eq_true rfl))
    refine jr.iconst rfl ?_
    refine jr.ishr rfl ?_
    have b13 : j_shr r12 4 = r12 / 16 := j_shr_ex 4 (by decide) (by omega) (by omega)
    generalize j_shr r12 4 = v13 at b13 ⊢
    refine jr.imul rfl ?_
    exact jr.ireturn rfl rfl rfl (q _ (by omega) (by unfold hsZ; (repeat' split) <;> omega))
  · refine jr.tsw_k 9 rfl h1 rfl ?_
    refine jr.gst (v := .ref 1000001) rfl rfl ?_
    refine jr.iload_n rfl rfl ?_
    obtain ⟨v14, e14⟩ : ∃ z_, xcv_1 x = z_ := ⟨_, rfl⟩
    have b14 : 1 ≤ v14 ∧ v14 ≤ 24 := by rw [← e14]; exact xcr_1 (by omega) (by omega)
    refine jr.ials (i := x) v14 rfl (by decide) rfl (by decide) (by omega) (by omega) (by rw [← e14]; exact (Int32.ofInt_toInt _).symm) ?_
    have hl1 := hls_c (k := x) (by omega) (by omega)
    exact jr.ireturn rfl rfl rfl (q _ (by omega) (by unfold hsZ; (repeat' split) <;> omega))
  · refine jr.tsw_k 10 rfl h1 rfl ?_
    refine jr.gst (v := .ref 1000001) rfl rfl ?_
    refine jr.iload_n rfl rfl ?_
    obtain ⟨v15, e15⟩ : ∃ z_, xcv_1 x = z_ := ⟨_, rfl⟩
    have b15 : 1 ≤ v15 ∧ v15 ≤ 24 := by rw [← e15]; exact xcr_1 (by omega) (by omega)
    refine jr.ials (i := x) v15 rfl (by decide) rfl (by decide) (by omega) (by omega) (by rw [← e15]; exact (Int32.ofInt_toInt _).symm) ?_
    have hl1 := hls_c (k := x) (by omega) (by omega)
    exact jr.ireturn rfl rfl rfl (q _ (by omega) (by unfold hsZ; (repeat' split) <;> omega))
  · refine jr.tsw_k 11 rfl h1 rfl ?_
    refine jr.aload_n rfl rfl ?_
    refine jr.getf (i := 7) (x := S) (v := .ref (S.toNat)) rfl rfl (Nat.lt_trans (kx_18 k_t).1 (by decide)) (kx_18 k_t).2 (by decide) rfl rfl g_S (jval_mut rfl (kn_18_7 k_t)) ?_
    refine jr.getf (i := 1) (x := N) (v := .int (Int32.ofInt (N))) rfl rfl (Nat.lt_trans (kx_33 k_S).1 (by decide)) (kx_33 k_S).2 (by decide) rfl rfl g_N rfl ?_
    refine jr.iload_n rfl rfl ?_
    refine jr.isub rfl ?_
    exact jr.ireturn rfl rfl rfl (q _ (by omega) (by unfold hsZ; (repeat' split) <;> omega))
  · refine jr.tsw_d rfl (by omega) (by omega) rfl ?_
    refine jr.gst (v := .ref 1000001) rfl rfl ?_
    refine jr.iload_n rfl rfl ?_
    obtain ⟨v17, e17⟩ : ∃ z_, xcv_1 x = z_ := ⟨_, rfl⟩
    have b17 : 1 ≤ v17 ∧ v17 ≤ 24 := by rw [← e17]; exact xcr_1 (by omega) (by omega)
    refine jr.ials (i := x) v17 rfl (by decide) rfl (by decide) (by omega) (by omega) (by rw [← e17]; exact (Int32.ofInt_toInt _).symm) ?_
    have hl1 := hls_c (k := x) (by omega) (by omega)
    exact jr.ireturn rfl rfl rfl (q _ (by omega) (by unfold hsZ; (repeat' split) <;> omega))
noncomputable def bkf (g : Int → Int) (c : Int) : Int := if 1 ≤ c then g (c - 1) else -1
noncomputable def hsF (f : Int → Int) (n c bk k a : Int) : Int := if 12 ≤ c then 6 else if (k = 4 ∧ bk ≠ 3) ∨ ((k = 6 ∨ k = 5) ∧ bk ≠ 3 ∧ bk ≠ 4 ∧ bk ≠ 5) then 3 else if (k = 2 ∨ k = 3) ∧ n < a + 1 then 1 else if (k = 2 ∧ hb f n a / 16 ≠ 4) ∨ (k = 3 ∧ hb f n a / 16 ≠ 6) then 3 else if n < a + hls k then 1 else if (k = 2 ∨ k = 8) ∧ hsZ f n k a < 20 then 4 else if n < a + hsZ f n k a then 1 else if (k = 2 ∧ tw f (a + 2) ≠ n - a) ∨ (k = 3 ∧ tw f (a + 2) ≠ n - a - 24) ∨ (k = 9 ∧ tw f (a + 4) ≠ n - a) then 5 else 0
noncomputable def hsW (f : Int → Int) (n c bk k a : Int) : Int := if 12 ≤ c then a else if (k = 4 ∧ bk ≠ 3) ∨ ((k = 6 ∨ k = 5) ∧ bk ≠ 3 ∧ bk ≠ 4 ∧ bk ≠ 5) then a else if (k = 2 ∨ k = 3) ∧ n < a + 1 then n else if (k = 2 ∧ hb f n a / 16 ≠ 4) ∨ (k = 3 ∧ hb f n a / 16 ≠ 6) then a else if n < a + hls k then n else if (k = 2 ∨ k = 8) ∧ hsZ f n k a < 20 then (if k = 2 then a else a + 12) else if n < a + hsZ f n k a then n else (if k = 9 then a + 4 else a + 2)
noncomputable def W_c_Headers_find_x : List (Nat × Nat) := [(18, 4), (18, 5), (18, 6)]
theorem c_Headers_find_x {A : Nat → Option (Nat × (Nat → Int32))} {Q : Option Value → jm → Prop} {T : jm} {M : jm} (hC_M : CI M) (ht_M : FR W_c_Headers_find_x T M) {t : Nat} (k_t : kd t = 18) {x : Int} (h_x : (-2147483648) ≤ x ∧ x ≤ 2147483647) {y : Int} (h_y : (-2147483648) ≤ y ∧ y ≤ 2147483647) {z : Int} (h_z : (-2147483648) ≤ z ∧ z ≤ 2147483647) (q : ∀ (M' : jm), CI M' → FR W_c_Headers_find_x T M' → (M' t 4 = x) → (M' t 5 = y) → (M' t 6 = z) → Q none M') : jc A 1 125 [.ref (t), .int (Int32.ofInt (x)), .int (Int32.ofInt (y)), .int (Int32.ofInt (z))] M Q := by
  refine jc_of (m := xm_125) rfl (Nat.le_of_ble_eq_true rfl) rfl ?_
  refine jr.aload_n rfl rfl ?_
  refine jr.iload_n rfl rfl ?_
  refine jr.putf (i := 4) (x := x) rfl rfl (Nat.lt_trans (kx_18 k_t).1 (by decide)) (kx_18 k_t).2 (by decide) rfl rfl rfl rfl rfl ?_
  refine jr.aload_n rfl rfl ?_
  refine jr.iload_n rfl rfl ?_
  refine jr.putf (i := 5) (x := y) rfl rfl (Nat.lt_trans (kx_18 k_t).1 (by decide)) (kx_18 k_t).2 (by decide) rfl rfl rfl rfl rfl ?_
  refine jr.aload_n rfl rfl ?_
  refine jr.iload_n rfl rfl ?_
  refine jr.putf (i := 6) (x := z) rfl rfl (Nat.lt_trans (kx_18 k_t).1 (by decide)) (kx_18 k_t).2 (by decide) rfl rfl rfl rfl rfl ?_
  exact jr.vreturn rfl rfl (q _ (CI.u (CI.u (CI.u hC_M (i := 4) k_t (show (-2147483648 : Int) ≤ _ ∧ _ ≤ (2147483647 : Int) from by omega) rfl) (i := 5) k_t (show (-2147483648 : Int) ≤ _ ∧ _ ≤ (2147483647 : Int) from by omega) rfl) (i := 6) k_t (show (-2147483648 : Int) ≤ _ ∧ _ ≤ (2147483647 : Int) from by omega) rfl) (FR.o (FR.o (FR.o ht_M k_t rfl) k_t rfl) k_t rfl)  (by have hq0 : (ju (ju (ju M t 4 x) t 5 y) t 6 z) t 4 = x := ((ju_i _ _ (zne (by decide))).trans ((ju_i _ _ (zne (by decide))).trans (ju_same _ _ _ _))); omega) (by have hq0 : (ju (ju (ju M t 4 x) t 5 y) t 6 z) t 5 = y := ((ju_i _ _ (zne (by decide))).trans (ju_same _ _ _ _)); omega) (by have hq0 : (ju (ju (ju M t 4 x) t 5 y) t 6 z) t 6 = z := (ju_same _ _ _ _); omega))
noncomputable def W_c_Headers_isCut_x : List (Nat × Nat) := [(18, 4), (18, 5), (18, 6)]
theorem c_Headers_isCut_x {A : Nat → Option (Nat × (Nat → Int32))} {Q : Option Value → jm → Prop} {T : jm} {M : jm} (hC_M : CI M) (ht_M : FR W_c_Headers_isCut_x T M) {t : Nat} (k_t : kd t = 18) {x : Int} (h_x : (-2147483648) ≤ x ∧ x ≤ 2147483647) {y : Int} (h_y : (-2147483648) ≤ y ∧ y ≤ 2147483647) {S : Int} (g_S : M t 7 = S) {N : Int} (g_N : M ((S.toNat)) 1 = N) {F : Int} (g_F : M t 4 = F) {G : Int} (g_G : M t 5 = G) {H : Int} (g_H : M t 6 = H) (q : ∀ (r : Int) (M' : jm), CI M' → FR W_c_Headers_isCut_x T M' → 0 ≤ r ∧ r ≤ 1 → ((N < y ∧ r = 1 ∧ M' t 4 = 1 ∧ M' t 5 = N ∧ M' t 6 = x) ∨ (y ≤ N ∧ M' t 4 = F ∧ M' t 5 = G ∧ M' t 6 = H ∧ ((r = 1 ∧ F ≠ 0) ∨ (r = 0 ∧ F = 0)))) → Q (some (.int (Int32.ofInt r))) M') : jc A 2 126 [.ref (t), .int (Int32.ofInt (x)), .int (Int32.ofInt (y))] M Q := by
  refine jc_of (m := xm_126) rfl (Nat.le_of_ble_eq_true rfl) rfl ?_
  have k_S : kd S.toNat = 33 := (congrArg (fun z : Int => kd z.toNat) g_S).symm.trans (CI.x hC_M k_t 7 rfl (by decide))
  have b_N : (-1) ≤ N ∧ N ≤ 400 := by rw [← g_N]; exact (CI.r hC_M k_S (by decide) 1)
  have b_F : (-2147483648) ≤ F ∧ F ≤ 2147483647 := by rw [← g_F]; exact (CI.r hC_M k_t (by decide) 4)
  have b_G : (-2147483648) ≤ G ∧ G ≤ 2147483647 := by rw [← g_G]; exact (CI.r hC_M k_t (by decide) 5)
  have b_H : (-2147483648) ≤ H ∧ H ≤ 2147483647 := by rw [← g_H]; exact (CI.r hC_M k_t (by decide) 6)
  refine jr.iload_n rfl rfl ?_
  refine jr.aload_n rfl rfl ?_
  refine jr.getf (i := 7) (x := S) (v := .ref (S.toNat)) rfl rfl (Nat.lt_trans (kx_18 k_t).1 (by decide)) (kx_18 k_t).2 (by decide) rfl rfl g_S (jval_mut rfl (kn_18_7 k_t)) ?_
  refine jr.getf (i := 1) (x := N) (v := .int (Int32.ofInt (N))) rfl rfl (Nat.lt_trans (kx_33 k_S).1 (by decide)) (kx_33 k_S).2 (by decide) rfl rfl g_N rfl ?_
  refine jr.icmp_le rfl rfl (by first | (refine rgb (by assumption) ?_; exact rfl) | omega) (by first | (refine rgb (by assumption) ?_; exact rfl) | omega) (fun h8 => ?_) (fun h8 => ?_)
  · refine jr.aload_n rfl rfl ?_
    refine jr.getf (i := 4) (x := F) (v := .int (Int32.ofInt (F))) rfl rfl (Nat.lt_trans (kx_18 k_t).1 (by decide)) (kx_18 k_t).2 (by decide) rfl rfl g_F rfl ?_
    refine jr.if_eq rfl rfl (by first | (refine rgb (by assumption) ?_; exact rfl) | omega) (fun h28 => ?_) (fun h28 => ?_)
    · refine jr.iconst rfl ?_
      exact jr.ireturn rfl rfl rfl (q _ _ hC_M ht_M (by first | exact rgq rfl | omega) (by have hq0 : M t 4 = F := g_F; have hq1 : M t 5 = G := g_G; have hq2 : M t 6 = H := g_H; omega))
    · refine jr.iconst rfl ?_
      refine jr.goto rfl rfl ?_
      exact jr.ireturn rfl rfl rfl (q _ _ hC_M ht_M (by first | exact rgq rfl | omega) (by have hq0 : M t 4 = F := g_F; have hq1 : M t 5 = G := g_G; have hq2 : M t 6 = H := g_H; omega))
  · refine jr.aload_n rfl rfl ?_
    refine jr.iconst rfl ?_
    refine jr.aload_n rfl rfl ?_
    refine jr.getf (i := 7) (x := S) (v := .ref (S.toNat)) rfl rfl (Nat.lt_trans (kx_18 k_t).1 (by decide)) (kx_18 k_t).2 (by decide) rfl rfl g_S (jval_mut rfl (kn_18_7 k_t)) ?_
    refine jr.getf (i := 1) (x := N) (v := .int (Int32.ofInt (N))) rfl rfl (Nat.lt_trans (kx_33 k_S).1 (by decide)) (kx_33 k_S).2 (by decide) rfl rfl g_N rfl ?_
    refine jr.iload_n rfl rfl ?_
    refine jr_v rfl rfl (Or.inl rfl) rfl rfl (Nat.lt_trans (kx_18 k_t).1 (by decide)) (kx_18 k_t).2 ⟨rfl, Nat.le_of_ble_eq_true rfl, Nat.le_of_ble_eq_true rfl⟩ rfl (jc.deep (c_Headers_find_x hC_M (FR.rfl _ M) k_t (by omega) (by omega) (by omega) (fun M3 hC_M3 hf_M3 w3_0 w3_1 w3_2 => ?_)) (Nat.le_of_ble_eq_true rfl))
    have ht_M3 : FR W_c_Headers_isCut_x T M3 := FR.t ht_M hf_M3 (kw_sub rfl)
    have b4 : (-2147483648) ≤ 1 ∧ 1 ≤ 2147483647 := by omega
    have b5 : (-2147483648) ≤ N ∧ N ≤ 2147483647 := by omega
    have b6 : (-2147483648) ≤ x ∧ x ≤ 2147483647 := by omega
    refine jr.aload_n rfl rfl ?_
    refine jr.getf (i := 4) (x := 1) (v := .int (Int32.ofInt (1))) rfl rfl (Nat.lt_trans (kx_18 k_t).1 (by decide)) (kx_18 k_t).2 (by decide) rfl rfl w3_0 rfl ?_
    refine jr.if_eq rfl rfl (by first | (refine rgb (by assumption) ?_; exact rfl) | omega) (fun h28 => ?_) (fun h28 => ?_)
    · refine jr.iconst rfl ?_
      exact jr.ireturn rfl rfl rfl (q _ _ hC_M3 ht_M3 (by first | exact rgq rfl | omega) (by have hq0 : M3 t 4 = 1 := w3_0; have hq1 : M3 t 5 = N := w3_1; have hq2 : M3 t 6 = x := w3_2; omega))
    · refine jr.iconst rfl ?_
      refine jr.goto rfl rfl ?_
      exact jr.ireturn rfl rfl rfl (q _ _ hC_M3 ht_M3 (by first | exact rgq rfl | omega) (by have hq0 : M3 t 4 = 1 := w3_0; have hq1 : M3 t 5 = N := w3_1; have hq2 : M3 t 6 = x := w3_2; omega))
noncomputable def W_c_Headers_isOtherVersion_x : List (Nat × Nat) := [(18, 4), (18, 5), (18, 6)]
theorem c_Headers_isOtherVersion_x {A : Nat → Option (Nat × (Nat → Int32))} {Q : Option Value → jm → Prop} {f : Int → Int} {T : jm} {M : jm} (hC_M : CI M) (ht_M : FR W_c_Headers_isOtherVersion_x T M) {t : Nat} (k_t : kd t = 18) {x : Int} (h_x : 2 ≤ x ∧ x ≤ 3) {y : Int} (h_y : 0 ≤ y ∧ y ≤ 400) {S : Int} (g_S : M t 7 = S) {N : Int} (g_N : M ((S.toNat)) 1 = N) {F : Int} (g_F : M t 4 = F) {G : Int} (g_G : M t 5 = G) {H : Int} (g_H : M t 6 = H) (p0 : BY8 M (S.toNat + 1) f) (p1 : F = 0) (q : ∀ (r : Int) (M' : jm), CI M' → FR W_c_Headers_isOtherVersion_x T M' → 0 ≤ r ∧ r ≤ 1 → ((N < y + 1 ∧ r = 1 ∧ M' t 4 = 1 ∧ M' t 5 = N ∧ M' t 6 = x) ∨ (y + 1 ≤ N ∧ ((x = 2 ∧ hb f N y / 16 ≠ 4) ∨ (x = 3 ∧ hb f N y / 16 ≠ 6)) ∧ r = 1 ∧ M' t 4 = 3 ∧ M' t 5 = y ∧ M' t 6 = x) ∨ (y + 1 ≤ N ∧ ¬ ((x = 2 ∧ hb f N y / 16 ≠ 4) ∨ (x = 3 ∧ hb f N y / 16 ≠ 6)) ∧ r = 0 ∧ M' t 4 = 0 ∧ M' t 5 = G ∧ M' t 6 = H)) → Q (some (.int (Int32.ofInt r))) M') : jc A 3 129 [.ref (t), .int (Int32.ofInt (x)), .int (Int32.ofInt (y))] M Q := by
  refine jc_of (m := xm_129) rfl (Nat.le_of_ble_eq_true rfl) rfl ?_
  have k_S : kd S.toNat = 33 := (congrArg (fun z : Int => kd z.toNat) g_S).symm.trans (CI.x hC_M k_t 7 rfl (by decide))
  have b_N : (-1) ≤ N ∧ N ≤ 400 := by rw [← g_N]; exact (CI.r hC_M k_S (by decide) 1)
  have b_F : (-2147483648) ≤ F ∧ F ≤ 2147483647 := by rw [← g_F]; exact (CI.r hC_M k_t (by decide) 4)
  have b_G : (-2147483648) ≤ G ∧ G ≤ 2147483647 := by rw [← g_G]; exact (CI.r hC_M k_t (by decide) 5)
  have b_H : (-2147483648) ≤ H ∧ H ≤ 2147483647 := by rw [← g_H]; exact (CI.r hC_M k_t (by decide) 6)
  have k_by : kd (S.toNat + 1) = 34 := (kf_33_0 k_S).2
  refine jr.aload_n rfl rfl ?_
  refine jr.iload_n rfl rfl ?_
  refine jr.iload_n rfl rfl ?_
  refine jr.iconst rfl ?_
  refine jr.iadd rfl ?_
  have k1_S : kd (S).toNat = 33 := (congrArg (fun z : Int => kd z.toNat) g_S).symm.trans (CI.x hC_M k_t 7 rfl (by decide))
  refine jr_v rfl rfl (Or.inl rfl) rfl rfl (Nat.lt_trans (kx_18 k_t).1 (by decide)) (kx_18 k_t).2 ⟨rfl, Nat.le_of_ble_eq_true rfl, Nat.le_of_ble_eq_true rfl⟩ rfl (jc.deep (c_Headers_isCut_x hC_M (FR.rfl _ M) k_t (by omega) (by omega) g_S g_N g_F g_G g_H (fun r1 M1 hC_M1 hf_M1 z1 w1_0 => ?_)) (Nat.le_of_ble_eq_true rfl))
  have ht_M1 : FR W_c_Headers_isOtherVersion_x T M1 := FR.t ht_M hf_M1 (kw_sub rfl)
  obtain ⟨v2, e2⟩ : ∃ z_, M1 t 4 = z_ := ⟨_, rfl⟩
  have b2 : (-2147483648) ≤ v2 ∧ v2 ≤ 2147483647 := by rw [← e2]; exact (CI.r hC_M1 k_t (by decide) 4)
  obtain ⟨v3, e3⟩ : ∃ z_, M1 t 5 = z_ := ⟨_, rfl⟩
  have b3 : (-2147483648) ≤ v3 ∧ v3 ≤ 2147483647 := by rw [← e3]; exact (CI.r hC_M1 k_t (by decide) 5)
  obtain ⟨v4, e4⟩ : ∃ z_, M1 t 6 = z_ := ⟨_, rfl⟩
  have b4 : (-2147483648) ≤ v4 ∧ v4 ≤ 2147483647 := by rw [← e4]; exact (CI.r hC_M1 k_t (by decide) 6)
  refine jr.if_eq rfl rfl (by first | (refine rgb (by assumption) ?_; exact rfl) | omega) (fun h8 => ?_) (fun h8 => ?_)
  · have w1 := w1_0.resolve_left (fun z => absurd z.2.1 (by omega))
    obtain ⟨w1a, w1b, w1c, w1d, w1e⟩ := w1
    have w1f : F = 0 := (w1e.resolve_left (fun z => absurd z.1 (by omega))).2
    clear w1_0 w1e
    refine jr.aload_n rfl rfl ?_
    have e5 : M1 t 7 = S := (hf_M1.g k_t rfl).trans g_S
    have k6 : kd (S).toNat = 33 := ((congrArg (fun z : Int => kd z.toNat) (show M1 t 7 = S from e5)).symm.trans (CI.x hC_M1 k_t 7 rfl (by decide)))
    refine jr.getf (i := 7) (x := S) (v := .ref (S.toNat)) rfl rfl (Nat.lt_trans (kx_18 k_t).1 (by decide)) (kx_18 k_t).2 (by decide) rfl rfl e5 (jval_mut rfl (kn_18_7 k_t)) ?_
    refine jr.iload_n rfl rfl ?_
    have e8 : M1 ((S.toNat)) 1 = N := (hf_M1.g k6 rfl).trans g_N
    refine jr_v rfl rfl (Or.inl rfl) rfl rfl (Nat.lt_trans (kx_33 k6).1 (by decide)) (kx_33 k6).2 ⟨rfl, Nat.le_of_ble_eq_true rfl, Nat.le_of_ble_eq_true rfl⟩ rfl (jc.deep (c_Packet_byteAt_h hC_M1 k6 (by omega) e8 (BY8.fr p0 k_by hf_M1 rfl) (fun r7 z7 w7_0 => ?_)) (Nat.le_of_ble_eq_true rfl))
    refine jr.iconst rfl ?_
    refine jr.ishr rfl ?_
    have b9 : j_shr r7 4 = r7 / 16 := j_shr_ex 4 (by decide) (by omega) (by omega)
    generalize j_shr r7 4 = v9 at b9 ⊢
    refine jr.iload_n rfl rfl ?_
    refine jr.iconst rfl ?_
    refine jr.icmp_ne rfl rfl (by first | (refine rgb (by assumption) ?_; exact rfl) | omega) (rgl rfl) (fun h25 => ?_) (fun h25 => ?_)
    · have sx25 : (3 : Int) ≤ x := by omega
      clear h25
      refine jr.bipush rfl (jbp _ (nlt rfl)) ?_
      refine jr.icmp_eq rfl rfl (by first | (refine rgb (by assumption) ?_; exact rfl) | omega) (rgl rfl) (fun h34 => ?_) (fun h34 => ?_)
      · refine jr.aload_n rfl rfl ?_
        refine jr.getf (i := 4) (x := v2) (v := .int (Int32.ofInt (v2))) rfl rfl (Nat.lt_trans (kx_18 k_t).1 (by decide)) (kx_18 k_t).2 (by decide) rfl rfl e2 rfl ?_
        refine jr.if_eq rfl rfl (by first | (refine rgb (by assumption) ?_; exact rfl) | omega) (fun h48 => ?_) (fun h48 => ?_)
        · refine jr.iconst rfl ?_
          exact jr.ireturn rfl rfl rfl (q _ _ hC_M1 ht_M1 (by first | exact rgq rfl | omega) (by have hq0 : M1 t 4 = v2 := e2; have hq1 : M1 t 5 = v3 := e3; have hq2 : M1 t 6 = v4 := e4; exact Or.elim (show N < y + 1 ∨ y + 1 ≤ N by omega) (fun hc => Or.inl ⟨hc, by omega, by omega, by omega, by omega⟩) (fun hc => Or.inr ((Classical.em ((x = 2 ∧ hb f N y / 16 ≠ 4) ∨ (x = 3 ∧ hb f N y / 16 ≠ 6))).elim (fun hd => Or.inl ⟨hc, hd, by omega, by omega, by omega, by omega⟩) (fun hd => Or.inr ⟨hc, hd, by omega, by omega, by omega, by omega⟩)))))
        · refine jr.iconst rfl ?_
          refine jr.goto rfl rfl ?_
          exact jr.ireturn rfl rfl rfl (q _ _ hC_M1 ht_M1 (by first | exact rgq rfl | omega) (by have hq0 : M1 t 4 = v2 := e2; have hq1 : M1 t 5 = v3 := e3; have hq2 : M1 t 6 = v4 := e4; exact Or.elim (show N < y + 1 ∨ y + 1 ≤ N by omega) (fun hc => Or.inl ⟨hc, by omega, by omega, by omega, by omega⟩) (fun hc => Or.inr ((Classical.em ((x = 2 ∧ hb f N y / 16 ≠ 4) ∨ (x = 3 ∧ hb f N y / 16 ≠ 6))).elim (fun hd => Or.inl ⟨hc, hd, by omega, by omega, by omega, by omega⟩) (fun hd => Or.inr ⟨hc, hd, by omega, by omega, by omega, by omega⟩)))))
      · refine jr.aload_n rfl rfl ?_
        refine jr.iconst rfl ?_
        refine jr.iload_n rfl rfl ?_
        refine jr.iload_n rfl rfl ?_
        refine jr_v rfl rfl (Or.inl rfl) rfl rfl (Nat.lt_trans (kx_18 k_t).1 (by decide)) (kx_18 k_t).2 ⟨rfl, Nat.le_of_ble_eq_true rfl, Nat.le_of_ble_eq_true rfl⟩ rfl (jc.deep (c_Headers_find_x hC_M1 (FR.rfl _ M1) k_t (by omega) (by omega) (by omega) (fun M10 hC_M10 hf_M10 w10_0 w10_1 w10_2 => ?_)) (Nat.le_of_ble_eq_true rfl))
        have ht_M10 : FR W_c_Headers_isOtherVersion_x T M10 := FR.t ht_M1 hf_M10 (kw_sub rfl)
        have b11 : (-2147483648) ≤ 3 ∧ 3 ≤ 2147483647 := by omega
        have b12 : (-2147483648) ≤ y ∧ y ≤ 2147483647 := by omega
        have b13 : (-2147483648) ≤ x ∧ x ≤ 2147483647 := by omega
        refine jr.aload_n rfl rfl ?_
        refine jr.getf (i := 4) (x := 3) (v := .int (Int32.ofInt (3))) rfl rfl (Nat.lt_trans (kx_18 k_t).1 (by decide)) (kx_18 k_t).2 (by decide) rfl rfl w10_0 rfl ?_
        refine jr.if_eq rfl rfl (by first | (refine rgb (by assumption) ?_; exact rfl) | omega) (fun h48 => ?_) (fun h48 => ?_)
        · refine jr.iconst rfl ?_
          exact jr.ireturn rfl rfl rfl (q _ _ hC_M10 ht_M10 (by first | exact rgq rfl | omega) (by have hq0 : M10 t 4 = 3 := w10_0; have hq1 : M10 t 5 = y := w10_1; have hq2 : M10 t 6 = x := w10_2; exact Or.elim (show N < y + 1 ∨ y + 1 ≤ N by omega) (fun hc => Or.inl ⟨hc, by omega, by omega, by omega, by omega⟩) (fun hc => Or.inr ((Classical.em ((x = 2 ∧ hb f N y / 16 ≠ 4) ∨ (x = 3 ∧ hb f N y / 16 ≠ 6))).elim (fun hd => Or.inl ⟨hc, hd, by omega, by omega, by omega, by omega⟩) (fun hd => Or.inr ⟨hc, hd, by omega, by omega, by omega, by omega⟩)))))
        · refine jr.iconst rfl ?_
          refine jr.goto rfl rfl ?_
          exact jr.ireturn rfl rfl rfl (q _ _ hC_M10 ht_M10 (by first | exact rgq rfl | omega) (by have hq0 : M10 t 4 = 3 := w10_0; have hq1 : M10 t 5 = y := w10_1; have hq2 : M10 t 6 = x := w10_2; exact Or.elim (show N < y + 1 ∨ y + 1 ≤ N by omega) (fun hc => Or.inl ⟨hc, by omega, by omega, by omega, by omega⟩) (fun hc => Or.inr ((Classical.em ((x = 2 ∧ hb f N y / 16 ≠ 4) ∨ (x = 3 ∧ hb f N y / 16 ≠ 6))).elim (fun hd => Or.inl ⟨hc, hd, by omega, by omega, by omega, by omega⟩) (fun hd => Or.inr ⟨hc, hd, by omega, by omega, by omega, by omega⟩)))))
    · refine jr.iconst rfl ?_
      refine jr.goto rfl rfl ?_
      refine jr.icmp_eq rfl rfl (by first | (refine rgb (by assumption) ?_; exact rfl) | omega) (by first | (refine rgb (by assumption) ?_; exact rfl) | omega) (fun h34 => ?_) (fun h34 => ?_)
      · refine jr.aload_n rfl rfl ?_
        refine jr.getf (i := 4) (x := v2) (v := .int (Int32.ofInt (v2))) rfl rfl (Nat.lt_trans (kx_18 k_t).1 (by decide)) (kx_18 k_t).2 (by decide) rfl rfl e2 rfl ?_
        refine jr.if_eq rfl rfl (by first | (refine rgb (by assumption) ?_; exact rfl) | omega) (fun h48 => ?_) (fun h48 => ?_)
        · refine jr.iconst rfl ?_
          exact jr.ireturn rfl rfl rfl (q _ _ hC_M1 ht_M1 (by first | exact rgq rfl | omega) (by have hq0 : M1 t 4 = v2 := e2; have hq1 : M1 t 5 = v3 := e3; have hq2 : M1 t 6 = v4 := e4; exact Or.elim (show N < y + 1 ∨ y + 1 ≤ N by omega) (fun hc => Or.inl ⟨hc, by omega, by omega, by omega, by omega⟩) (fun hc => Or.inr ((Classical.em ((x = 2 ∧ hb f N y / 16 ≠ 4) ∨ (x = 3 ∧ hb f N y / 16 ≠ 6))).elim (fun hd => Or.inl ⟨hc, hd, by omega, by omega, by omega, by omega⟩) (fun hd => Or.inr ⟨hc, hd, by omega, by omega, by omega, by omega⟩)))))
        · refine jr.iconst rfl ?_
          refine jr.goto rfl rfl ?_
          exact jr.ireturn rfl rfl rfl (q _ _ hC_M1 ht_M1 (by first | exact rgq rfl | omega) (by have hq0 : M1 t 4 = v2 := e2; have hq1 : M1 t 5 = v3 := e3; have hq2 : M1 t 6 = v4 := e4; exact Or.elim (show N < y + 1 ∨ y + 1 ≤ N by omega) (fun hc => Or.inl ⟨hc, by omega, by omega, by omega, by omega⟩) (fun hc => Or.inr ((Classical.em ((x = 2 ∧ hb f N y / 16 ≠ 4) ∨ (x = 3 ∧ hb f N y / 16 ≠ 6))).elim (fun hd => Or.inl ⟨hc, hd, by omega, by omega, by omega, by omega⟩) (fun hd => Or.inr ⟨hc, hd, by omega, by omega, by omega, by omega⟩)))))
      · refine jr.aload_n rfl rfl ?_
        refine jr.iconst rfl ?_
        refine jr.iload_n rfl rfl ?_
        refine jr.iload_n rfl rfl ?_
        refine jr_v rfl rfl (Or.inl rfl) rfl rfl (Nat.lt_trans (kx_18 k_t).1 (by decide)) (kx_18 k_t).2 ⟨rfl, Nat.le_of_ble_eq_true rfl, Nat.le_of_ble_eq_true rfl⟩ rfl (jc.deep (c_Headers_find_x hC_M1 (FR.rfl _ M1) k_t (by omega) (by omega) (by omega) (fun M14 hC_M14 hf_M14 w14_0 w14_1 w14_2 => ?_)) (Nat.le_of_ble_eq_true rfl))
        have ht_M14 : FR W_c_Headers_isOtherVersion_x T M14 := FR.t ht_M1 hf_M14 (kw_sub rfl)
        have b15 : (-2147483648) ≤ 3 ∧ 3 ≤ 2147483647 := by omega
        have b16 : (-2147483648) ≤ y ∧ y ≤ 2147483647 := by omega
        have b17 : (-2147483648) ≤ x ∧ x ≤ 2147483647 := by omega
        refine jr.aload_n rfl rfl ?_
        refine jr.getf (i := 4) (x := 3) (v := .int (Int32.ofInt (3))) rfl rfl (Nat.lt_trans (kx_18 k_t).1 (by decide)) (kx_18 k_t).2 (by decide) rfl rfl w14_0 rfl ?_
        refine jr.if_eq rfl rfl (by first | (refine rgb (by assumption) ?_; exact rfl) | omega) (fun h48 => ?_) (fun h48 => ?_)
        · refine jr.iconst rfl ?_
          exact jr.ireturn rfl rfl rfl (q _ _ hC_M14 ht_M14 (by first | exact rgq rfl | omega) (by have hq0 : M14 t 4 = 3 := w14_0; have hq1 : M14 t 5 = y := w14_1; have hq2 : M14 t 6 = x := w14_2; exact Or.elim (show N < y + 1 ∨ y + 1 ≤ N by omega) (fun hc => Or.inl ⟨hc, by omega, by omega, by omega, by omega⟩) (fun hc => Or.inr ((Classical.em ((x = 2 ∧ hb f N y / 16 ≠ 4) ∨ (x = 3 ∧ hb f N y / 16 ≠ 6))).elim (fun hd => Or.inl ⟨hc, hd, by omega, by omega, by omega, by omega⟩) (fun hd => Or.inr ⟨hc, hd, by omega, by omega, by omega, by omega⟩)))))
        · refine jr.iconst rfl ?_
          refine jr.goto rfl rfl ?_
          exact jr.ireturn rfl rfl rfl (q _ _ hC_M14 ht_M14 (by first | exact rgq rfl | omega) (by have hq0 : M14 t 4 = 3 := w14_0; have hq1 : M14 t 5 = y := w14_1; have hq2 : M14 t 6 = x := w14_2; exact Or.elim (show N < y + 1 ∨ y + 1 ≤ N by omega) (fun hc => Or.inl ⟨hc, by omega, by omega, by omega, by omega⟩) (fun hc => Or.inr ((Classical.em ((x = 2 ∧ hb f N y / 16 ≠ 4) ∨ (x = 3 ∧ hb f N y / 16 ≠ 6))).elim (fun hd => Or.inl ⟨hc, hd, by omega, by omega, by omega, by omega⟩) (fun hd => Or.inr ⟨hc, hd, by omega, by omega, by omega, by omega⟩)))))
  · have sx8 : (1 : Int) ≤ r1 := by omega
    clear h8
    refine jr.iconst rfl ?_
    exact jr.ireturn rfl rfl rfl (q _ _ hC_M1 ht_M1 (by first | exact rgq rfl | omega) (by have hq0 : M1 t 4 = v2 := e2; have hq1 : M1 t 5 = v3 := e3; have hq2 : M1 t 6 = v4 := e4; exact Or.elim (show N < y + 1 ∨ y + 1 ≤ N by omega) (fun hc => Or.inl ⟨hc, by omega, by omega, by omega, by omega⟩) (fun hc => Or.inr ((Classical.em ((x = 2 ∧ hb f N y / 16 ≠ 4) ∨ (x = 3 ∧ hb f N y / 16 ≠ 6))).elim (fun hd => Or.inl ⟨hc, hd, by omega, by omega, by omega, by omega⟩) (fun hd => Or.inr ⟨hc, hd, by omega, by omega, by omega, by omega⟩)))))
theorem c_Headers_isMisplaced_x {A : Nat → Option (Nat × (Nat → Int32))} {Q : Option Value → jm → Prop} {M : jm} (hC_M : CI M) {t : Nat} (k_t : kd t = 18) {x : Int} (h_x : 0 ≤ x ∧ x ≤ 11) {C : Int} (g_C : M t 3 = C) (q : ∀ (r : Int), 0 ≤ r ∧ r ≤ 1 → ((r = 1 ∧ ((x = 4 ∧ bkf (M (t + 1)) C ≠ 3) ∨ ((x = 6 ∨ x = 5) ∧ bkf (M (t + 1)) C ≠ 3 ∧ bkf (M (t + 1)) C ≠ 4 ∧ bkf (M (t + 1)) C ≠ 5))) ∨ (r = 0 ∧ ¬ ((x = 4 ∧ bkf (M (t + 1)) C ≠ 3) ∨ ((x = 6 ∨ x = 5) ∧ bkf (M (t + 1)) C ≠ 3 ∧ bkf (M (t + 1)) C ≠ 4 ∧ bkf (M (t + 1)) C ≠ 5)))) → Q (some (.int (Int32.ofInt r))) M) : jc A 2 128 [.ref (t), .int (Int32.ofInt (x))] M Q := by
  refine jc_of (m := xm_128) rfl (Nat.le_of_ble_eq_true rfl) rfl ?_
  have b_C : 0 ≤ C ∧ C ≤ 12 := by rw [← g_C]; exact (CI.r hC_M k_t (by decide) 3)
  refine jr.aload_n rfl rfl ?_
  refine jr.aload_n rfl rfl ?_
  refine jr.getf (i := 3) (x := C) (v := .int (Int32.ofInt (C))) rfl rfl (Nat.lt_trans (kx_18 k_t).1 (by decide)) (kx_18 k_t).2 (by decide) rfl rfl g_C rfl ?_
  refine jr.iconst rfl ?_
  refine jr.isub rfl ?_
  refine jr_v rfl rfl (Or.inl rfl) rfl rfl (Nat.lt_trans (kx_18 k_t).1 (by decide)) (kx_18 k_t).2 ⟨rfl, Nat.le_of_ble_eq_true rfl, Nat.le_of_ble_eq_true rfl⟩ rfl (jc.deep (c_Headers_kindAt hC_M k_t (by omega) (fun r1 z1 w1_0 w1_1 => ?_)) (Nat.le_of_ble_eq_true rfl))
  refine jr.istore_n (ls' := [_, _, _]) rfl (nlt rfl) rfl ?_
  refine jr.iload_n rfl rfl ?_
  refine jr.iconst rfl ?_
  refine jr.icmp_ne rfl rfl (by first | (refine rgb (by assumption) ?_; exact rfl) | omega) (rgl rfl) (fun h13 => ?_) (fun h13 => ?_)
  · refine jr.iload_n rfl rfl ?_
    refine jr.bipush rfl (jbp _ (nlt rfl)) ?_
    refine jr.icmp_eq rfl rfl (by first | (refine rgb (by assumption) ?_; exact rfl) | omega) (rgl rfl) (fun h30 => ?_) (fun h30 => ?_)
    · refine jr.iload_n rfl rfl ?_
      refine jr.iconst rfl ?_
      refine jr.icmp_eq rfl rfl (by first | (refine rgb (by assumption) ?_; exact rfl) | omega) (rgl rfl) (fun h40 => ?_) (fun h40 => ?_)
      · refine jr.iconst rfl ?_
        exact jr.ireturn rfl rfl rfl (q _ (by first | exact rgq rfl | omega) (by have hbk : bkf (M (t + 1)) C = r1 := (by unfold bkf; split <;> omega); rw [hbk]; omega))
      · refine jr.iload_n rfl rfl ?_
        refine jr.iconst rfl ?_
        refine jr.icmp_eq rfl rfl (by first | (refine rgb (by assumption) ?_; exact rfl) | omega) (rgl rfl) (fun h45 => ?_) (fun h45 => ?_)
        · refine jr.iconst rfl ?_
          exact jr.ireturn rfl rfl rfl (q _ (by first | exact rgq rfl | omega) (by have hbk : bkf (M (t + 1)) C = r1 := (by unfold bkf; split <;> omega); rw [hbk]; omega))
        · refine jr.iload_n rfl rfl ?_
          refine jr.iconst rfl ?_
          refine jr.icmp_eq rfl rfl (by first | (refine rgb (by assumption) ?_; exact rfl) | omega) (rgl rfl) (fun h50 => ?_) (fun h50 => ?_)
          · refine jr.iconst rfl ?_
            exact jr.ireturn rfl rfl rfl (q _ (by first | exact rgq rfl | omega) (by have hbk : bkf (M (t + 1)) C = r1 := (by unfold bkf; split <;> omega); rw [hbk]; omega))
          · refine jr.iconst rfl ?_
            refine jr.goto rfl rfl ?_
            exact jr.ireturn rfl rfl rfl (q _ (by first | exact rgq rfl | omega) (by have hbk : bkf (M (t + 1)) C = r1 := (by unfold bkf; split <;> omega); rw [hbk]; omega))
    · refine jr.iload_n rfl rfl ?_
      refine jr.iconst rfl ?_
      refine jr.icmp_ne rfl rfl (by first | (refine rgb (by assumption) ?_; exact rfl) | omega) (rgl rfl) (fun h35 => ?_) (fun h35 => ?_)
      · refine jr.iconst rfl ?_
        exact jr.ireturn rfl rfl rfl (q _ (by first | exact rgq rfl | omega) (by have hbk : bkf (M (t + 1)) C = r1 := (by unfold bkf; split <;> omega); rw [hbk]; omega))
      · refine jr.iload_n rfl rfl ?_
        refine jr.iconst rfl ?_
        refine jr.icmp_eq rfl rfl (by first | (refine rgb (by assumption) ?_; exact rfl) | omega) (rgl rfl) (fun h40 => ?_) (fun h40 => ?_)
        · refine jr.iconst rfl ?_
          exact jr.ireturn rfl rfl rfl (q _ (by first | exact rgq rfl | omega) (by have hbk : bkf (M (t + 1)) C = r1 := (by unfold bkf; split <;> omega); rw [hbk]; omega))
        · refine jr.iload_n rfl rfl ?_
          refine jr.iconst rfl ?_
          refine jr.icmp_eq rfl rfl (by first | (refine rgb (by assumption) ?_; exact rfl) | omega) (rgl rfl) (fun h45 => ?_) (fun h45 => ?_)
          · refine jr.iconst rfl ?_
            exact jr.ireturn rfl rfl rfl (q _ (by first | exact rgq rfl | omega) (by have hbk : bkf (M (t + 1)) C = r1 := (by unfold bkf; split <;> omega); rw [hbk]; omega))
          · refine jr.iload_n rfl rfl ?_
            refine jr.iconst rfl ?_
            refine jr.icmp_eq rfl rfl (by first | (refine rgb (by assumption) ?_; exact rfl) | omega) (rgl rfl) (fun h50 => ?_) (fun h50 => ?_)
            · refine jr.iconst rfl ?_
              exact jr.ireturn rfl rfl rfl (q _ (by first | exact rgq rfl | omega) (by have hbk : bkf (M (t + 1)) C = r1 := (by unfold bkf; split <;> omega); rw [hbk]; omega))
            · refine jr.iconst rfl ?_
              refine jr.goto rfl rfl ?_
              exact jr.ireturn rfl rfl rfl (q _ (by first | exact rgq rfl | omega) (by have hbk : bkf (M (t + 1)) C = r1 := (by unfold bkf; split <;> omega); rw [hbk]; omega))
  · refine jr.iload_n rfl rfl ?_
    refine jr.iconst rfl ?_
    refine jr.icmp_eq rfl rfl (by first | (refine rgb (by assumption) ?_; exact rfl) | omega) (rgl rfl) (fun h18 => ?_) (fun h18 => ?_)
    · refine jr.iconst rfl ?_
      exact jr.ireturn rfl rfl rfl (q _ (by first | exact rgq rfl | omega) (by have hbk : bkf (M (t + 1)) C = r1 := (by unfold bkf; split <;> omega); rw [hbk]; omega))
    · refine jr.iconst rfl ?_
      refine jr.goto rfl rfl ?_
      exact jr.ireturn rfl rfl rfl (q _ (by first | exact rgq rfl | omega) (by have hbk : bkf (M (t + 1)) C = r1 := (by unfold bkf; split <;> omega); rw [hbk]; omega))
noncomputable def W_c_Headers_checkTold_x : List (Nat × Nat) := [(18, 4), (18, 5), (18, 6)]
theorem c_Headers_checkTold_x {A : Nat → Option (Nat × (Nat → Int32))} {Q : Option Value → jm → Prop} {f : Int → Int} {T : jm} {M : jm} (hC_M : CI M) (ht_M : FR W_c_Headers_checkTold_x T M) {t : Nat} (k_t : kd t = 18) {x : Int} (h_x : 0 ≤ x ∧ x ≤ 11) {y : Int} (h_y : 0 ≤ y ∧ y ≤ 400) {S : Int} (g_S : M t 7 = S) {N : Int} (g_N : M ((S.toNat)) 1 = N) {F : Int} (g_F : M t 4 = F) {G : Int} (g_G : M t 5 = G) {H : Int} (g_H : M t 6 = H) (p0 : BY8 M (S.toNat + 1) f) (p1 : (x ≠ 2 ∨ y + 20 ≤ N) ∧ (x ≠ 3 ∨ y + 24 ≤ N) ∧ (x ≠ 9 ∨ y + 8 ≤ N)) (q : ∀ (M' : jm), CI M' → FR W_c_Headers_checkTold_x T M' → ((((x = 2 ∧ tw f (y + 2) ≠ N - y) ∨ (x = 3 ∧ tw f (y + 2) ≠ N - y - 24) ∨ (x = 9 ∧ tw f (y + 4) ≠ N - y)) ∧ M' t 4 = 5 ∧ ((x = 9 ∧ M' t 5 = y + 4) ∨ (x ≠ 9 ∧ M' t 5 = y + 2)) ∧ M' t 6 = x) ∨ (¬ ((x = 2 ∧ tw f (y + 2) ≠ N - y) ∨ (x = 3 ∧ tw f (y + 2) ≠ N - y - 24) ∨ (x = 9 ∧ tw f (y + 4) ≠ N - y)) ∧ M' t 4 = F ∧ M' t 5 = G ∧ M' t 6 = H)) → Q none M') : jc A 3 131 [.ref (t), .int (Int32.ofInt (x)), .int (Int32.ofInt (y))] M Q := by
  refine jc_of (m := xm_131) rfl (Nat.le_of_ble_eq_true rfl) rfl ?_
  have k_S : kd S.toNat = 33 := (congrArg (fun z : Int => kd z.toNat) g_S).symm.trans (CI.x hC_M k_t 7 rfl (by decide))
  have b_N : (-1) ≤ N ∧ N ≤ 400 := by rw [← g_N]; exact (CI.r hC_M k_S (by decide) 1)
  have b_F : (-2147483648) ≤ F ∧ F ≤ 2147483647 := by rw [← g_F]; exact (CI.r hC_M k_t (by decide) 4)
  have b_G : (-2147483648) ≤ G ∧ G ≤ 2147483647 := by rw [← g_G]; exact (CI.r hC_M k_t (by decide) 5)
  have b_H : (-2147483648) ≤ H ∧ H ≤ 2147483647 := by rw [← g_H]; exact (CI.r hC_M k_t (by decide) 6)
  have k_by : kd (S.toNat + 1) = 34 := (kf_33_0 k_S).2
  refine jr.aload_n rfl rfl ?_
  refine jr.getf (i := 7) (x := S) (v := .ref (S.toNat)) rfl rfl (Nat.lt_trans (kx_18 k_t).1 (by decide)) (kx_18 k_t).2 (by decide) rfl rfl g_S (jval_mut rfl (kn_18_7 k_t)) ?_
  refine jr.getf (i := 1) (x := N) (v := .int (Int32.ofInt (N))) rfl rfl (Nat.lt_trans (kx_33 k_S).1 (by decide)) (kx_33 k_S).2 (by decide) rfl rfl g_N rfl ?_
  refine jr.iload_n rfl rfl ?_
  refine jr.isub rfl ?_
  refine jr.istore_n (ls' := [_, _, _, _]) rfl (nlt rfl) rfl ?_
  refine jr.iload_n rfl rfl ?_
  refine jr.iconst rfl ?_
  refine jr.icmp_ne rfl rfl (by first | (refine rgb (by assumption) ?_; exact rfl) | omega) (rgl rfl) (fun h12 => ?_) (fun h12 => ?_)
  · refine jr.iload_n rfl rfl ?_
    refine jr.iconst rfl ?_
    refine jr.icmp_ne rfl rfl (by first | (refine rgb (by assumption) ?_; exact rfl) | omega) (rgl rfl) (fun h46 => ?_) (fun h46 => ?_)
    · refine jr.iload_n rfl rfl ?_
      refine jr.bipush rfl (jbp _ (nlt rfl)) ?_
      refine jr.icmp_ne rfl rfl (by first | (refine rgb (by assumption) ?_; exact rfl) | omega) (rgl rfl) (fun h84 => ?_) (fun h84 => ?_)
      · exact jr.vreturn rfl rfl (q _ hC_M ht_M  (by have hq0 : M t 4 = F := g_F; have hq1 : M t 5 = G := g_G; have hq2 : M t 6 = H := g_H; omega))
      · refine jr.aload_n rfl rfl ?_
        refine jr.getf (i := 7) (x := S) (v := .ref (S.toNat)) rfl rfl (Nat.lt_trans (kx_18 k_t).1 (by decide)) (kx_18 k_t).2 (by decide) rfl rfl g_S (jval_mut rfl (kn_18_7 k_t)) ?_
        refine jr.iload_n rfl rfl ?_
        refine jr.iconst rfl ?_
        refine jr.iadd rfl ?_
        refine jr.iconst rfl ?_
        refine jr_v rfl rfl (Or.inl rfl) rfl rfl (Nat.lt_trans (kx_33 k_S).1 (by decide)) (kx_33 k_S).2 ⟨rfl, Nat.le_of_ble_eq_true rfl, Nat.le_of_ble_eq_true rfl⟩ rfl (jc.deep (c_Packet_numberFrom_h hC_M k_S (by omega) p0 (fun r3 z3 w3_0 => ?_)) (Nat.le_of_ble_eq_true rfl))
        refine jr.iload_n rfl rfl ?_
        refine jr.i2l rfl (by omega) ?_
        refine jr.lcmp_eq rfl rfl rfl (by omega) (by omega) (fun h100 => ?_) (fun h100 => ?_)
        · exact jr.vreturn rfl rfl (q _ hC_M ht_M  (by have hq0 : M t 4 = F := g_F; have hq1 : M t 5 = G := g_G; have hq2 : M t 6 = H := g_H; omega))
        · refine jr.aload_n rfl rfl ?_
          refine jr.iconst rfl ?_
          refine jr.iload_n rfl rfl ?_
          refine jr.iconst rfl ?_
          refine jr.iadd rfl ?_
          refine jr.iload_n rfl rfl ?_
          refine jr_v rfl rfl (Or.inl rfl) rfl rfl (Nat.lt_trans (kx_18 k_t).1 (by decide)) (kx_18 k_t).2 ⟨rfl, Nat.le_of_ble_eq_true rfl, Nat.le_of_ble_eq_true rfl⟩ rfl (jc.deep (c_Headers_find_x hC_M (FR.rfl _ M) k_t (by omega) (by omega) (by omega) (fun M4 hC_M4 hf_M4 w4_0 w4_1 w4_2 => ?_)) (Nat.le_of_ble_eq_true rfl))
          have ht_M4 : FR W_c_Headers_checkTold_x T M4 := FR.t ht_M hf_M4 (kw_sub rfl)
          have b5 : (-2147483648) ≤ 5 ∧ 5 ≤ 2147483647 := by omega
          have b6 : (-2147483648) ≤ y + 4 ∧ y + 4 ≤ 2147483647 := by omega
          have b7 : (-2147483648) ≤ x ∧ x ≤ 2147483647 := by omega
          exact jr.vreturn rfl rfl (q _ hC_M4 ht_M4  (by have hq0 : M4 t 4 = 5 := w4_0; have hq1 : M4 t 5 = y + 4 := w4_1; have hq2 : M4 t 6 = x := w4_2; omega))
    · refine jr.aload_n rfl rfl ?_
      refine jr.getf (i := 7) (x := S) (v := .ref (S.toNat)) rfl rfl (Nat.lt_trans (kx_18 k_t).1 (by decide)) (kx_18 k_t).2 (by decide) rfl rfl g_S (jval_mut rfl (kn_18_7 k_t)) ?_
      refine jr.iload_n rfl rfl ?_
      refine jr.iconst rfl ?_
      refine jr.iadd rfl ?_
      refine jr.iconst rfl ?_
      refine jr_v rfl rfl (Or.inl rfl) rfl rfl (Nat.lt_trans (kx_33 k_S).1 (by decide)) (kx_33 k_S).2 ⟨rfl, Nat.le_of_ble_eq_true rfl, Nat.le_of_ble_eq_true rfl⟩ rfl (jc.deep (c_Packet_numberFrom_h hC_M k_S (by omega) p0 (fun r9 z9 w9_0 => ?_)) (Nat.le_of_ble_eq_true rfl))
      refine jr.iload_n rfl rfl ?_
      refine jr.bipush rfl (jbp _ (nlt rfl)) ?_
      refine jr.isub rfl ?_
      refine jr.i2l rfl (by omega) ?_
      refine jr.lcmp_eq rfl rfl rfl (by omega) (by omega) (fun h65 => ?_) (fun h65 => ?_)
      · refine jr.iload_n rfl rfl ?_
        refine jr.bipush rfl (jbp _ (nlt rfl)) ?_
        refine jr.icmp_ne rfl rfl (by first | (refine rgb (by assumption) ?_; exact rfl) | omega) (rgl rfl) (fun h84 => ?_) (fun h84 => ?_)
        · exact jr.vreturn rfl rfl (q _ hC_M ht_M  (by have hq0 : M t 4 = F := g_F; have hq1 : M t 5 = G := g_G; have hq2 : M t 6 = H := g_H; omega))
        · exact absurd (by omega) h84
      · refine jr.aload_n rfl rfl ?_
        refine jr.iconst rfl ?_
        refine jr.iload_n rfl rfl ?_
        refine jr.iconst rfl ?_
        refine jr.iadd rfl ?_
        refine jr.iload_n rfl rfl ?_
        refine jr_v rfl rfl (Or.inl rfl) rfl rfl (Nat.lt_trans (kx_18 k_t).1 (by decide)) (kx_18 k_t).2 ⟨rfl, Nat.le_of_ble_eq_true rfl, Nat.le_of_ble_eq_true rfl⟩ rfl (jc.deep (c_Headers_find_x hC_M (FR.rfl _ M) k_t (by omega) (by omega) (by omega) (fun M10 hC_M10 hf_M10 w10_0 w10_1 w10_2 => ?_)) (Nat.le_of_ble_eq_true rfl))
        have ht_M10 : FR W_c_Headers_checkTold_x T M10 := FR.t ht_M hf_M10 (kw_sub rfl)
        have b11 : (-2147483648) ≤ 5 ∧ 5 ≤ 2147483647 := by omega
        have b12 : (-2147483648) ≤ y + 2 ∧ y + 2 ≤ 2147483647 := by omega
        have b13 : (-2147483648) ≤ x ∧ x ≤ 2147483647 := by omega
        refine jr.goto rfl rfl ?_
        exact jr.vreturn rfl rfl (q _ hC_M10 ht_M10  (by have hq0 : M10 t 4 = 5 := w10_0; have hq1 : M10 t 5 = y + 2 := w10_1; have hq2 : M10 t 6 = x := w10_2; omega))
  · refine jr.aload_n rfl rfl ?_
    refine jr.getf (i := 7) (x := S) (v := .ref (S.toNat)) rfl rfl (Nat.lt_trans (kx_18 k_t).1 (by decide)) (kx_18 k_t).2 (by decide) rfl rfl g_S (jval_mut rfl (kn_18_7 k_t)) ?_
    refine jr.iload_n rfl rfl ?_
    refine jr.iconst rfl ?_
    refine jr.iadd rfl ?_
    refine jr.iconst rfl ?_
    refine jr_v rfl rfl (Or.inl rfl) rfl rfl (Nat.lt_trans (kx_33 k_S).1 (by decide)) (kx_33 k_S).2 ⟨rfl, Nat.le_of_ble_eq_true rfl, Nat.le_of_ble_eq_true rfl⟩ rfl (jc.deep (c_Packet_numberFrom_h hC_M k_S (by omega) p0 (fun r15 z15 w15_0 => ?_)) (Nat.le_of_ble_eq_true rfl))
    refine jr.iload_n rfl rfl ?_
    refine jr.i2l rfl (by omega) ?_
    refine jr.lcmp_eq rfl rfl rfl (by omega) (by omega) (fun h28 => ?_) (fun h28 => ?_)
    · refine jr.iload_n rfl rfl ?_
      refine jr.iconst rfl ?_
      refine jr.icmp_ne rfl rfl (by first | (refine rgb (by assumption) ?_; exact rfl) | omega) (rgl rfl) (fun h46 => ?_) (fun h46 => ?_)
      · refine jr.iload_n rfl rfl ?_
        refine jr.bipush rfl (jbp _ (nlt rfl)) ?_
        refine jr.icmp_ne rfl rfl (by first | (refine rgb (by assumption) ?_; exact rfl) | omega) (rgl rfl) (fun h84 => ?_) (fun h84 => ?_)
        · exact jr.vreturn rfl rfl (q _ hC_M ht_M  (by have hq0 : M t 4 = F := g_F; have hq1 : M t 5 = G := g_G; have hq2 : M t 6 = H := g_H; omega))
        · exact absurd (by omega) h84
      · exact absurd (by omega) h46
    · refine jr.aload_n rfl rfl ?_
      refine jr.iconst rfl ?_
      refine jr.iload_n rfl rfl ?_
      refine jr.iconst rfl ?_
      refine jr.iadd rfl ?_
      refine jr.iload_n rfl rfl ?_
      refine jr_v rfl rfl (Or.inl rfl) rfl rfl (Nat.lt_trans (kx_18 k_t).1 (by decide)) (kx_18 k_t).2 ⟨rfl, Nat.le_of_ble_eq_true rfl, Nat.le_of_ble_eq_true rfl⟩ rfl (jc.deep (c_Headers_find_x hC_M (FR.rfl _ M) k_t (by omega) (by omega) (by omega) (fun M16 hC_M16 hf_M16 w16_0 w16_1 w16_2 => ?_)) (Nat.le_of_ble_eq_true rfl))
      have ht_M16 : FR W_c_Headers_checkTold_x T M16 := FR.t ht_M hf_M16 (kw_sub rfl)
      have b17 : (-2147483648) ≤ 5 ∧ 5 ≤ 2147483647 := by omega
      have b18 : (-2147483648) ≤ y + 2 ∧ y + 2 ≤ 2147483647 := by omega
      have b19 : (-2147483648) ≤ x ∧ x ≤ 2147483647 := by omega
      refine jr.goto rfl rfl ?_
      exact jr.vreturn rfl rfl (q _ hC_M16 ht_M16  (by have hq0 : M16 t 4 = 5 := w16_0; have hq1 : M16 t 5 = y + 2 := w16_1; have hq2 : M16 t 6 = x := w16_2; omega))
end
section
/-! ===== headers: a step, whole ===== -/
theorem hls_v (x : Int) : (x ≠ 2 ∨ hls x = 20) ∧ (x ≠ 3 ∨ hls x = 24) ∧ (x ≠ 9 ∨ hls x = 8) := by
  unfold hls
  (repeat' split) <;> omega
theorem hsF_e {f : Int → Int} {n c bk k a : Int} (h : c < 12 ∧ ¬ ((k = 4 ∧ bk ≠ 3) ∨ ((k = 6 ∨ k = 5) ∧ bk ≠ 3 ∧ bk ≠ 4 ∧ bk ≠ 5)) ∧ ¬ ((k = 2 ∨ k = 3) ∧ n < a + 1) ∧ ¬ ((k = 2 ∧ hb f n a / 16 ≠ 4) ∨ (k = 3 ∧ hb f n a / 16 ≠ 6)) ∧ 0 ≤ n) (h2 : a + hls k ≤ n) (h3 : ¬ ((k = 2 ∨ k = 8) ∧ hsZ f n k a < 20)) (h4 : a + hsZ f n k a ≤ n) : hsF f n c bk k a = (if ((k = 2 ∧ tw f (a + 2) ≠ n - a) ∨ (k = 3 ∧ tw f (a + 2) ≠ n - a - 24) ∨ (k = 9 ∧ tw f (a + 4) ≠ n - a)) then 5 else 0) ∧ hsW f n c bk k a = (if k = 9 then a + 4 else a + 2) := by
  obtain ⟨g0, g1, g2, g3, g4⟩ := h
  have c0 : ¬ 12 ≤ c := by omega
  have c4 : ¬ n < a + hls k := by omega
  have c6 : ¬ n < a + hsZ f n k a := by omega
  refine ⟨?_, ?_⟩
  · unfold hsF
    rw [if_neg c0, if_neg g1, if_neg g2, if_neg g3, if_neg c4, if_neg h3, if_neg c6]
  · unfold hsW
    rw [if_neg c0, if_neg g1, if_neg g2, if_neg g3, if_neg c4, if_neg h3, if_neg c6]
theorem c_PacketWall_isNetKind_x {A : Nat → Option (Nat × (Nat → Int32))} {Q : Option Value → jm → Prop} {M : jm} (hC_M : CI M) {x : Int} (h_x : (-2147483648) ≤ x ∧ x ≤ 2147483647) (q : ∀ (r : Int), 0 ≤ r ∧ r ≤ 1 → (r = 0 ∨ (2 ≤ x ∧ x ≤ 3)) → ((r = 1 ∧ (x = 2 ∨ x = 3)) ∨ (r = 0 ∧ x ≠ 2 ∧ x ≠ 3)) → Q (some (.int (Int32.ofInt r))) M) : jc A 1 50 [.int (Int32.ofInt (x))] M Q := by
  refine jc_of (m := xm_50) rfl (Nat.le_of_ble_eq_true rfl) rfl ?_
  refine jr.iload_n rfl rfl ?_
  refine jr.iconst rfl ?_
  refine jr.icmp_eq rfl rfl (by first | (refine rgb (by assumption) ?_; exact rfl) | omega) (rgl rfl) (fun h2 => ?_) (fun h2 => ?_)
  · refine jr.iconst rfl ?_
    refine jr.goto rfl rfl ?_
    exact jr.ireturn rfl rfl rfl (q _ (by first | exact rgq rfl | omega) (by omega) (by omega))
  · refine jr.iload_n rfl rfl ?_
    refine jr.iconst rfl ?_
    refine jr.icmp_ne rfl rfl (by first | (refine rgb (by assumption) ?_; exact rfl) | omega) (rgl rfl) (fun h7 => ?_) (fun h7 => ?_)
    · refine jr.iconst rfl ?_
      exact jr.ireturn rfl rfl rfl (q _ (by first | exact rgq rfl | omega) (by omega) (by omega))
    · refine jr.iconst rfl ?_
      refine jr.goto rfl rfl ?_
      exact jr.ireturn rfl rfl rfl (q _ (by first | exact rgq rfl | omega) (by omega) (by omega))
noncomputable def W_c_Headers_sizeIfRight_x : List (Nat × Nat) := [(18, 4), (18, 5), (18, 6)]
theorem c_Headers_sizeIfRight_x_L116 {A : Nat → Option (Nat × (Nat → Int32))} {Q : Option Value → jm → Prop} {f : Int → Int} {T : jm} {t : Nat} (k_t : kd t = 18) {S : Int} {N : Int} {G : Int} {H : Int} {C : Int} {x : Int} {y : Int} (q : ∀ (r : Int) (M' : jm), CI M' → FR W_c_Headers_sizeIfRight_x T M' → (-401) ≤ r ∧ r ≤ 2048 → ((hsF f N C (bkf (T (t + 1)) C) x y ≠ 0 ∧ M' t 4 = hsF f N C (bkf (T (t + 1)) C) x y ∧ M' t 5 = hsW f N C (bkf (T (t + 1)) C) x y ∧ M' t 6 = x) ∨ (hsF f N C (bkf (T (t + 1)) C) x y = 0 ∧ M' t 4 = 0 ∧ r = hsZ f N x y ∧ M' t 5 = G ∧ M' t 6 = H)) → Q (some (.int (Int32.ofInt r))) M') : ∀ (nM : Nat) (M : jm) (w : Int), CI M → FR W_c_Headers_sizeIfRight_x T M → 0 ≤ x ∧ x ≤ 11 → 0 ≤ y ∧ y ≤ 400 → (-401) ≤ w ∧ w ≤ 2048 → M t 7 = S → M ((S.toNat)) 1 = N → (M t 4 = 0 ∧ M t 5 = G ∧ M t 6 = H) → (BY8 M (S.toNat + 1) f) → (C < 12 ∧ ¬ ((x = 4 ∧ bkf (T (t + 1)) C ≠ 3) ∨ ((x = 6 ∨ x = 5) ∧ bkf (T (t + 1)) C ≠ 3 ∧ bkf (T (t + 1)) C ≠ 4 ∧ bkf (T (t + 1)) C ≠ 5)) ∧ ¬ ((x = 2 ∨ x = 3) ∧ N < y + 1) ∧ ¬ ((x = 2 ∧ hb f N y / 16 ≠ 4) ∨ (x = 3 ∧ hb f N y / 16 ≠ 6)) ∧ 0 ≤ N) → (w = hsZ f N x y ∧ y + hls x ≤ N ∧ ¬ ((x = 2 ∨ x = 8) ∧ w < 20)) → ((x ≠ 2 ∨ hls x = 20) ∧ (x ≠ 3 ∨ hls x = 24) ∧ (x ≠ 9 ∨ hls x = 8)) → 0 ≤ nM → jr A 3 xm_127 116 [(1, .int (Int32.ofInt (x))), (2, .int (Int32.ofInt (y))), (3, .int (Int32.ofInt (w))), (0, .ref (t))] [] M Q := by
  intro nM
  induction nM using Nat.strongRecOn with
  | ind nM ih =>
    intro M w hC_M ht_M h_x h_y h_w g_S g_N hy0 hy1 hy2 hy3 hy4 hm
    have k_S : kd S.toNat = 33 := (congrArg (fun z : Int => kd z.toNat) g_S).symm.trans (CI.x hC_M k_t 7 rfl (by decide))
    have b_N : (-1) ≤ N ∧ N ≤ 400 := by rw [← g_N]; exact (CI.r hC_M k_S (by decide) 1)
    have k_by : kd (S.toNat + 1) = 34 := (kf_33_0 k_S).2
    obtain ⟨v1, e1⟩ : ∃ z_, M t 4 = z_ := ⟨_, rfl⟩
    have b1 : (-2147483648) ≤ v1 ∧ v1 ≤ 2147483647 := by rw [← e1]; exact (CI.r hC_M k_t (by decide) 4)
    obtain ⟨v2, e2⟩ : ∃ z_, M t 5 = z_ := ⟨_, rfl⟩
    have b2 : (-2147483648) ≤ v2 ∧ v2 ≤ 2147483647 := by rw [← e2]; exact (CI.r hC_M k_t (by decide) 5)
    obtain ⟨v3, e3⟩ : ∃ z_, M t 6 = z_ := ⟨_, rfl⟩
    have b3 : (-2147483648) ≤ v3 ∧ v3 ≤ 2147483647 := by rw [← e3]; exact (CI.r hC_M k_t (by decide) 6)
    refine jr.aload_n rfl rfl ?_
    refine jr.iload_n rfl rfl ?_
    refine jr.iload_n rfl rfl ?_
    refine jr.iload_n rfl rfl ?_
    refine jr.iadd rfl ?_
    have k4_S : kd (S).toNat = 33 := (congrArg (fun z : Int => kd z.toNat) g_S).symm.trans (CI.x hC_M k_t 7 rfl (by decide))
    refine jr_v rfl rfl (Or.inl rfl) rfl rfl (Nat.lt_trans (kx_18 k_t).1 (by decide)) (kx_18 k_t).2 ⟨rfl, Nat.le_of_ble_eq_true rfl, Nat.le_of_ble_eq_true rfl⟩ rfl (jc.deep (c_Headers_isCut_x hC_M (FR.rfl _ M) k_t (by omega) (by omega) g_S g_N e1 e2 e3 (fun r4 M4 hC_M4 hf_M4 z4 w4_0 => ?_)) (Nat.le_of_ble_eq_true rfl))
    have ht_M4 : FR W_c_Headers_sizeIfRight_x T M4 := FR.t ht_M hf_M4 (kw_sub rfl)
    obtain ⟨v5, e5⟩ : ∃ z_, M4 t 4 = z_ := ⟨_, rfl⟩
    have b5 : (-2147483648) ≤ v5 ∧ v5 ≤ 2147483647 := by rw [← e5]; exact (CI.r hC_M4 k_t (by decide) 4)
    obtain ⟨v6, e6⟩ : ∃ z_, M4 t 5 = z_ := ⟨_, rfl⟩
    have b6 : (-2147483648) ≤ v6 ∧ v6 ≤ 2147483647 := by rw [← e6]; exact (CI.r hC_M4 k_t (by decide) 5)
    obtain ⟨v7, e7⟩ : ∃ z_, M4 t 6 = z_ := ⟨_, rfl⟩
    have b7 : (-2147483648) ≤ v7 ∧ v7 ≤ 2147483647 := by rw [← e7]; exact (CI.r hC_M4 k_t (by decide) 6)
    refine jr.if_eq rfl rfl (by first | (refine rgb (by assumption) ?_; exact rfl) | omega) (fun h124 => ?_) (fun h124 => ?_)
    · refine jr.aload_n rfl rfl ?_
      refine jr.iload_n rfl rfl ?_
      refine jr.iload_n rfl rfl ?_
      have e9 : M4 t 7 = S := (hf_M4.g k_t rfl).trans g_S
      have k8_S : kd (S).toNat = 33 := (congrArg (fun z : Int => kd z.toNat) e9).symm.trans (CI.x hC_M4 k_t 7 rfl (by decide))
      have e10 : M4 ((S.toNat)) 1 = N := (hf_M4.g k8_S rfl).trans g_N
      refine jr_v rfl rfl (Or.inl rfl) rfl rfl (Nat.lt_trans (kx_18 k_t).1 (by decide)) (kx_18 k_t).2 ⟨rfl, Nat.le_of_ble_eq_true rfl, Nat.le_of_ble_eq_true rfl⟩ rfl (jc.deep (c_Headers_checkTold_x hC_M4 (FR.rfl _ M4) k_t (by omega) (by omega) e9 e10 e5 e6 e7 (BY8.fr hy1 k_by hf_M4 rfl) (by omega) (fun M8 hC_M8 hf_M8 w8_0 => ?_)) (Nat.le_of_ble_eq_true rfl))
      have ht_M8 : FR W_c_Headers_sizeIfRight_x T M8 := FR.t ht_M4 hf_M8 (kw_sub rfl)
      obtain ⟨v11, e11⟩ : ∃ z_, M8 t 4 = z_ := ⟨_, rfl⟩
      have b11 : (-2147483648) ≤ v11 ∧ v11 ≤ 2147483647 := by rw [← e11]; exact (CI.r hC_M8 k_t (by decide) 4)
      obtain ⟨v12, e12⟩ : ∃ z_, M8 t 5 = z_ := ⟨_, rfl⟩
      have b12 : (-2147483648) ≤ v12 ∧ v12 ≤ 2147483647 := by rw [← e12]; exact (CI.r hC_M8 k_t (by decide) 5)
      obtain ⟨v13, e13⟩ : ∃ z_, M8 t 6 = z_ := ⟨_, rfl⟩
      have b13 : (-2147483648) ≤ v13 ∧ v13 ≤ 2147483647 := by rw [← e13]; exact (CI.r hC_M8 k_t (by decide) 6)
      refine jr.iload_n rfl rfl ?_
      exact jr.ireturn rfl rfl rfl (q _ _ hC_M8 ht_M8 (by omega) (by have hq4 : M8 t 4 = v11 := e11; have hq5 : M8 t 5 = v12 := e12; have hq6 : M8 t 6 = v13 := e13; obtain ⟨e1, e2⟩ := hsF_e hy2 hy3.2.1 (by rw [← hy3.1]; exact hy3.2.2) (by omega); exact Or.elim w8_0 (fun h => (by clear w8_0; rw [if_pos h.1] at e1; exact Or.inl ⟨by omega, by omega, by split at e2 <;> omega, by omega⟩)) (fun h => (by clear w8_0; rw [if_neg h.1] at e1; exact Or.inr ⟨e1, by omega, by omega, by omega, by omega⟩))))
    · have sx124 : (1 : Int) ≤ r4 := by omega
      clear h124
      refine jr.iconst rfl ?_
      exact jr.ireturn rfl rfl rfl (q _ _ hC_M4 ht_M4 (by first | exact rgq rfl | omega) (by have hq4 : M4 t 4 = v5 := e5; have hq5 : M4 t 5 = v6 := e6; have hq6 : M4 t 6 = v7 := e7; have e1 : hsF f N C (bkf (T (t + 1)) C) x y = _ := (by unfold hsF; rw [if_neg (by omega), if_neg hy2.2.1, if_neg hy2.2.2.1, if_neg hy2.2.2.2.1, if_neg (by omega), if_neg (by rw [← hy3.1]; exact hy3.2.2), if_pos (by omega)]); have e2 : hsW f N C (bkf (T (t + 1)) C) x y = _ := (by unfold hsW; rw [if_neg (by omega), if_neg hy2.2.1, if_neg hy2.2.2.1, if_neg hy2.2.2.2.1, if_neg (by omega), if_neg (by rw [← hy3.1]; exact hy3.2.2), if_pos (by omega)]); exact Or.inl ⟨by omega, by omega, by omega, by omega⟩))
theorem c_Headers_sizeIfRight_x_L54 {A : Nat → Option (Nat × (Nat → Int32))} {Q : Option Value → jm → Prop} {f : Int → Int} {T : jm} {t : Nat} (k_t : kd t = 18) {S : Int} {N : Int} {G : Int} {H : Int} {C : Int} {x : Int} {y : Int} (q : ∀ (r : Int) (M' : jm), CI M' → FR W_c_Headers_sizeIfRight_x T M' → (-401) ≤ r ∧ r ≤ 2048 → ((hsF f N C (bkf (T (t + 1)) C) x y ≠ 0 ∧ M' t 4 = hsF f N C (bkf (T (t + 1)) C) x y ∧ M' t 5 = hsW f N C (bkf (T (t + 1)) C) x y ∧ M' t 6 = x) ∨ (hsF f N C (bkf (T (t + 1)) C) x y = 0 ∧ M' t 4 = 0 ∧ r = hsZ f N x y ∧ M' t 5 = G ∧ M' t 6 = H)) → Q (some (.int (Int32.ofInt r))) M') : ∀ (nM : Nat) (M : jm), CI M → FR W_c_Headers_sizeIfRight_x T M → 0 ≤ x ∧ x ≤ 11 → 0 ≤ y ∧ y ≤ 400 → M t 7 = S → M ((S.toNat)) 1 = N → (M t 4 = 0 ∧ M t 5 = G ∧ M t 6 = H) → (BY8 M (S.toNat + 1) f) → (C < 12 ∧ ¬ ((x = 4 ∧ bkf (T (t + 1)) C ≠ 3) ∨ ((x = 6 ∨ x = 5) ∧ bkf (T (t + 1)) C ≠ 3 ∧ bkf (T (t + 1)) C ≠ 4 ∧ bkf (T (t + 1)) C ≠ 5)) ∧ ¬ ((x = 2 ∨ x = 3) ∧ N < y + 1) ∧ ¬ ((x = 2 ∧ hb f N y / 16 ≠ 4) ∨ (x = 3 ∧ hb f N y / 16 ≠ 6)) ∧ 0 ≤ N) → 0 ≤ nM → jr A 3 xm_127 54 [(1, .int (Int32.ofInt (x))), (2, .int (Int32.ofInt (y))), (0, .ref (t))] [] M Q := by
  intro nM
  induction nM using Nat.strongRecOn with
  | ind nM ih =>
    intro M  hC_M ht_M h_x h_y g_S g_N hy0 hy1 hy2 hm
    have k_S : kd S.toNat = 33 := (congrArg (fun z : Int => kd z.toNat) g_S).symm.trans (CI.x hC_M k_t 7 rfl (by decide))
    have b_N : (-1) ≤ N ∧ N ≤ 400 := by rw [← g_N]; exact (CI.r hC_M k_S (by decide) 1)
    have k_by : kd (S.toNat + 1) = 34 := (kf_33_0 k_S).2
    obtain ⟨v1, e1⟩ : ∃ z_, M t 4 = z_ := ⟨_, rfl⟩
    have b1 : (-2147483648) ≤ v1 ∧ v1 ≤ 2147483647 := by rw [← e1]; exact (CI.r hC_M k_t (by decide) 4)
    obtain ⟨v2, e2⟩ : ∃ z_, M t 5 = z_ := ⟨_, rfl⟩
    have b2 : (-2147483648) ≤ v2 ∧ v2 ≤ 2147483647 := by rw [← e2]; exact (CI.r hC_M k_t (by decide) 5)
    obtain ⟨v3, e3⟩ : ∃ z_, M t 6 = z_ := ⟨_, rfl⟩
    have b3 : (-2147483648) ≤ v3 ∧ v3 ≤ 2147483647 := by rw [← e3]; exact (CI.r hC_M k_t (by decide) 6)
    refine jr.aload_n rfl rfl ?_
    refine jr.iload_n rfl rfl ?_
    refine jr.iload_n rfl rfl ?_
    refine jr.gst (v := .ref 1000001) rfl rfl ?_
    refine jr.iload_n rfl rfl ?_
    obtain ⟨v4, e4⟩ : ∃ z_, xcv_1 x = z_ := ⟨_, rfl⟩
    have b4 : 1 ≤ v4 ∧ v4 ≤ 24 := by rw [← e4]; exact xcr_1 (by omega) (by omega)
    refine jr.ials (i := x) v4 rfl (by decide) rfl (by decide) (by omega) (by omega) (by rw [← e4]; exact (Int32.ofInt_toInt _).symm) ?_
    have hl1 := hls_c (k := x) (by omega) (by omega)
    have hl2 := hls_r x
    have hl3 := hls_v x
    refine jr.iadd rfl ?_
    have k5_S : kd (S).toNat = 33 := (congrArg (fun z : Int => kd z.toNat) g_S).symm.trans (CI.x hC_M k_t 7 rfl (by decide))
    refine jr_v rfl rfl (Or.inl rfl) rfl rfl (Nat.lt_trans (kx_18 k_t).1 (by decide)) (kx_18 k_t).2 ⟨rfl, Nat.le_of_ble_eq_true rfl, Nat.le_of_ble_eq_true rfl⟩ rfl (jc.deep (c_Headers_isCut_x hC_M (FR.rfl _ M) k_t (by omega) (by omega) g_S g_N e1 e2 e3 (fun r5 M5 hC_M5 hf_M5 z5 w5_0 => ?_)) (Nat.le_of_ble_eq_true rfl))
    have ht_M5 : FR W_c_Headers_sizeIfRight_x T M5 := FR.t ht_M hf_M5 (kw_sub rfl)
    obtain ⟨v6, e6⟩ : ∃ z_, M5 t 4 = z_ := ⟨_, rfl⟩
    have b6 : (-2147483648) ≤ v6 ∧ v6 ≤ 2147483647 := by rw [← e6]; exact (CI.r hC_M5 k_t (by decide) 4)
    obtain ⟨v7, e7⟩ : ∃ z_, M5 t 5 = z_ := ⟨_, rfl⟩
    have b7 : (-2147483648) ≤ v7 ∧ v7 ≤ 2147483647 := by rw [← e7]; exact (CI.r hC_M5 k_t (by decide) 5)
    obtain ⟨v8, e8⟩ : ∃ z_, M5 t 6 = z_ := ⟨_, rfl⟩
    have b8 : (-2147483648) ≤ v8 ∧ v8 ≤ 2147483647 := by rw [← e8]; exact (CI.r hC_M5 k_t (by decide) 6)
    refine jr.if_eq rfl rfl (by first | (refine rgb (by assumption) ?_; exact rfl) | omega) (fun h66 => ?_) (fun h66 => ?_)
    · refine jr.aload_n rfl rfl ?_
      refine jr.iload_n rfl rfl ?_
      refine jr.iload_n rfl rfl ?_
      have e10 : M5 t 7 = S := (hf_M5.g k_t rfl).trans g_S
      have k9_S : kd (S).toNat = 33 := (congrArg (fun z : Int => kd z.toNat) e10).symm.trans (CI.x hC_M5 k_t 7 rfl (by decide))
      have e11 : M5 ((S.toNat)) 1 = N := (hf_M5.g k9_S rfl).trans g_N
      refine jr_v rfl rfl (Or.inl rfl) rfl rfl (Nat.lt_trans (kx_18 k_t).1 (by decide)) (kx_18 k_t).2 ⟨rfl, Nat.le_of_ble_eq_true rfl, Nat.le_of_ble_eq_true rfl⟩ rfl (jc.deep (c_Headers_fullSize_x hC_M5 k_t (by omega) (by omega) e10 e11 (BY8.fr hy1 k_by hf_M5 rfl) (fun r9 z9 w9_0 => ?_)) (Nat.le_of_ble_eq_true rfl))
      refine jr.istore_n (ls' := [_, _, _, _]) rfl (nlt rfl) rfl ?_
      refine jr.iload_n rfl rfl ?_
      refine jr.iconst rfl ?_
      refine jr.icmp_eq rfl rfl (by first | (refine rgb (by assumption) ?_; exact rfl) | omega) (rgl rfl) (fun h80 => ?_) (fun h80 => ?_)
      · refine jr.iload_n rfl rfl ?_
        refine jr.bipush rfl (jbp _ (nlt rfl)) ?_
        refine jr.icmp_ge rfl rfl (by first | (refine rgb (by assumption) ?_; exact rfl) | omega) (rgl rfl) (fun h92 => ?_) (fun h92 => ?_)
        · refine jr.pick (ls := [_, _, _, _]) [1, 2, 0, 3] rfl rfl ?_
          exact c_Headers_sizeIfRight_x_L116 k_t q 0 M5 r9 hC_M5 ht_M5 (by omega) (by omega) (by omega) e10 e11 (by have hq0 : M5 t 4 = v6 := e6; have hq1 : M5 t 5 = v7 := e7; have hq2 : M5 t 6 = v8 := e8; omega) (BY8.fr hy1 k_by hf_M5 rfl) (by omega) (by omega) (by omega) (by omega)
        · refine jr.aload_n rfl rfl ?_
          refine jr.iconst rfl ?_
          refine jr.iload_n rfl rfl ?_
          refine jr.iconst rfl ?_
          refine jr.icmp_ne rfl rfl (by first | (refine rgb (by assumption) ?_; exact rfl) | omega) (rgl rfl) (fun h99 => ?_) (fun h99 => ?_)
          · exact absurd h99 (by omega)
          · refine jr.iload_n rfl rfl ?_
            refine jr.goto rfl rfl ?_
            refine jr.iload_n rfl rfl ?_
            refine jr_v rfl rfl (Or.inl rfl) rfl rfl (Nat.lt_trans (kx_18 k_t).1 (by decide)) (kx_18 k_t).2 ⟨rfl, Nat.le_of_ble_eq_true rfl, Nat.le_of_ble_eq_true rfl⟩ rfl (jc.deep (c_Headers_find_x hC_M5 (FR.rfl _ M5) k_t (by omega) (by omega) (by omega) (fun M12 hC_M12 hf_M12 w12_0 w12_1 w12_2 => ?_)) (Nat.le_of_ble_eq_true rfl))
            have ht_M12 : FR W_c_Headers_sizeIfRight_x T M12 := FR.t ht_M5 hf_M12 (kw_sub rfl)
            have b13 : (-2147483648) ≤ 4 ∧ 4 ≤ 2147483647 := by omega
            have b14 : (-2147483648) ≤ y ∧ y ≤ 2147483647 := by omega
            have b15 : (-2147483648) ≤ x ∧ x ≤ 2147483647 := by omega
            refine jr.iconst rfl ?_
            exact jr.ireturn rfl rfl rfl (q _ _ hC_M12 ht_M12 (by first | exact rgq rfl | omega) (by have hq4 : M12 t 4 = 4 := w12_0; have hq5 : M12 t 5 = y := w12_1; have hq6 : M12 t 6 = x := w12_2; have e1 : hsF f N C (bkf (T (t + 1)) C) x y = _ := (by unfold hsF; rw [if_neg (by omega), if_neg hy2.2.1, if_neg hy2.2.2.1, if_neg hy2.2.2.2.1, if_neg (by omega), if_pos (by omega)]); have e2 : hsW f N C (bkf (T (t + 1)) C) x y = _ := (by unfold hsW; rw [if_neg (by omega), if_neg hy2.2.1, if_neg hy2.2.2.1, if_neg hy2.2.2.2.1, if_neg (by omega), if_pos (by omega)]); exact Or.inl ⟨by omega, by omega, by split at e2 <;> omega, by omega⟩))
      · refine jr.iload_n rfl rfl ?_
        refine jr.bipush rfl (jbp _ (nlt rfl)) ?_
        refine jr.icmp_ne rfl rfl (by first | (refine rgb (by assumption) ?_; exact rfl) | omega) (rgl rfl) (fun h86 => ?_) (fun h86 => ?_)
        · refine jr.pick (ls := [_, _, _, _]) [1, 2, 0, 3] rfl rfl ?_
          exact c_Headers_sizeIfRight_x_L116 k_t q 0 M5 r9 hC_M5 ht_M5 (by omega) (by omega) (by omega) e10 e11 (by have hq0 : M5 t 4 = v6 := e6; have hq1 : M5 t 5 = v7 := e7; have hq2 : M5 t 6 = v8 := e8; omega) (BY8.fr hy1 k_by hf_M5 rfl) (by omega) (by omega) (by omega) (by omega)
        · refine jr.iload_n rfl rfl ?_
          refine jr.bipush rfl (jbp _ (nlt rfl)) ?_
          refine jr.icmp_ge rfl rfl (by first | (refine rgb (by assumption) ?_; exact rfl) | omega) (rgl rfl) (fun h92 => ?_) (fun h92 => ?_)
          · refine jr.pick (ls := [_, _, _, _]) [1, 2, 0, 3] rfl rfl ?_
            exact c_Headers_sizeIfRight_x_L116 k_t q 0 M5 r9 hC_M5 ht_M5 (by omega) (by omega) (by omega) e10 e11 (by have hq0 : M5 t 4 = v6 := e6; have hq1 : M5 t 5 = v7 := e7; have hq2 : M5 t 6 = v8 := e8; omega) (BY8.fr hy1 k_by hf_M5 rfl) (by omega) (by omega) (by omega) (by omega)
          · refine jr.aload_n rfl rfl ?_
            refine jr.iconst rfl ?_
            refine jr.iload_n rfl rfl ?_
            refine jr.iconst rfl ?_
            refine jr.icmp_ne rfl rfl (by first | (refine rgb (by assumption) ?_; exact rfl) | omega) (rgl rfl) (fun h99 => ?_) (fun h99 => ?_)
            · refine jr.iload_n rfl rfl ?_
              refine jr.bipush rfl (jbp _ (nlt rfl)) ?_
              refine jr.iadd rfl ?_
              refine jr.iload_n rfl rfl ?_
              refine jr_v rfl rfl (Or.inl rfl) rfl rfl (Nat.lt_trans (kx_18 k_t).1 (by decide)) (kx_18 k_t).2 ⟨rfl, Nat.le_of_ble_eq_true rfl, Nat.le_of_ble_eq_true rfl⟩ rfl (jc.deep (c_Headers_find_x hC_M5 (FR.rfl _ M5) k_t (by omega) (by omega) (by omega) (fun M16 hC_M16 hf_M16 w16_0 w16_1 w16_2 => ?_)) (Nat.le_of_ble_eq_true rfl))
              have ht_M16 : FR W_c_Headers_sizeIfRight_x T M16 := FR.t ht_M5 hf_M16 (kw_sub rfl)
              have b17 : (-2147483648) ≤ 4 ∧ 4 ≤ 2147483647 := by omega
              have b18 : (-2147483648) ≤ y + 12 ∧ y + 12 ≤ 2147483647 := by omega
              have b19 : (-2147483648) ≤ x ∧ x ≤ 2147483647 := by omega
              refine jr.iconst rfl ?_
              exact jr.ireturn rfl rfl rfl (q _ _ hC_M16 ht_M16 (by first | exact rgq rfl | omega) (by have hq4 : M16 t 4 = 4 := w16_0; have hq5 : M16 t 5 = y + 12 := w16_1; have hq6 : M16 t 6 = x := w16_2; have e1 : hsF f N C (bkf (T (t + 1)) C) x y = _ := (by unfold hsF; rw [if_neg (by omega), if_neg hy2.2.1, if_neg hy2.2.2.1, if_neg hy2.2.2.2.1, if_neg (by omega), if_pos (by omega)]); have e2 : hsW f N C (bkf (T (t + 1)) C) x y = _ := (by unfold hsW; rw [if_neg (by omega), if_neg hy2.2.1, if_neg hy2.2.2.1, if_neg hy2.2.2.2.1, if_neg (by omega), if_pos (by omega)]); exact Or.inl ⟨by omega, by omega, by split at e2 <;> omega, by omega⟩))
            · exact absurd (by omega) h99
    · have sx66 : (1 : Int) ≤ r5 := by omega
      clear h66
      refine jr.iconst rfl ?_
      exact jr.ireturn rfl rfl rfl (q _ _ hC_M5 ht_M5 (by first | exact rgq rfl | omega) (by have hq4 : M5 t 4 = v6 := e6; have hq5 : M5 t 5 = v7 := e7; have hq6 : M5 t 6 = v8 := e8; have e1 : hsF f N C (bkf (T (t + 1)) C) x y = _ := (by unfold hsF; rw [if_neg (by omega), if_neg hy2.2.1, if_neg hy2.2.2.1, if_neg hy2.2.2.2.1, if_pos (by omega)]); have e2 : hsW f N C (bkf (T (t + 1)) C) x y = _ := (by unfold hsW; rw [if_neg (by omega), if_neg hy2.2.1, if_neg hy2.2.2.1, if_neg hy2.2.2.2.1, if_pos (by omega)]); exact Or.inl ⟨by omega, by omega, by omega, by omega⟩))
theorem c_Headers_sizeIfRight_x {A : Nat → Option (Nat × (Nat → Int32))} {Q : Option Value → jm → Prop} {f : Int → Int} {T : jm} {M : jm} (hC_M : CI M) (ht_M : FR W_c_Headers_sizeIfRight_x T M) {t : Nat} (k_t : kd t = 18) {x : Int} (h_x : 0 ≤ x ∧ x ≤ 11) {y : Int} (h_y : 0 ≤ y ∧ y ≤ 400) {S : Int} (g_S : M t 7 = S) {N : Int} (g_N : M ((S.toNat)) 1 = N) {F : Int} (g_F : M t 4 = F) {G : Int} (g_G : M t 5 = G) {H : Int} (g_H : M t 6 = H) {C : Int} (g_C : M t 3 = C) (p0 : T = M) (p1 : BY8 M (S.toNat + 1) f) (p2 : F = 0) (p3 : 0 ≤ N) (q : ∀ (r : Int) (M' : jm), CI M' → FR W_c_Headers_sizeIfRight_x T M' → (-401) ≤ r ∧ r ≤ 2048 → ((hsF f N C (bkf (T (t + 1)) C) x y ≠ 0 ∧ M' t 4 = hsF f N C (bkf (T (t + 1)) C) x y ∧ M' t 5 = hsW f N C (bkf (T (t + 1)) C) x y ∧ M' t 6 = x) ∨ (hsF f N C (bkf (T (t + 1)) C) x y = 0 ∧ M' t 4 = 0 ∧ r = hsZ f N x y ∧ M' t 5 = G ∧ M' t 6 = H)) → Q (some (.int (Int32.ofInt r))) M') : jc A 4 127 [.ref (t), .int (Int32.ofInt (x)), .int (Int32.ofInt (y))] M Q := by
  refine jc_of (m := xm_127) rfl (Nat.le_of_ble_eq_true rfl) rfl ?_
  have k_S : kd S.toNat = 33 := (congrArg (fun z : Int => kd z.toNat) g_S).symm.trans (CI.x hC_M k_t 7 rfl (by decide))
  have b_N : (-1) ≤ N ∧ N ≤ 400 := by rw [← g_N]; exact (CI.r hC_M k_S (by decide) 1)
  have b_F : (-2147483648) ≤ F ∧ F ≤ 2147483647 := by rw [← g_F]; exact (CI.r hC_M k_t (by decide) 4)
  have b_G : (-2147483648) ≤ G ∧ G ≤ 2147483647 := by rw [← g_G]; exact (CI.r hC_M k_t (by decide) 5)
  have b_H : (-2147483648) ≤ H ∧ H ≤ 2147483647 := by rw [← g_H]; exact (CI.r hC_M k_t (by decide) 6)
  have b_C : 0 ≤ C ∧ C ≤ 12 := by rw [← g_C]; exact (CI.r hC_M k_t (by decide) 3)
  have k_by : kd (S.toNat + 1) = 34 := (kf_33_0 k_S).2
  refine jr.aload_n rfl rfl ?_
  refine jr.getf (i := 3) (x := C) (v := .int (Int32.ofInt (C))) rfl rfl (Nat.lt_trans (kx_18 k_t).1 (by decide)) (kx_18 k_t).2 (by decide) rfl rfl g_C rfl ?_
  refine jr.bipush rfl (jbp _ (nlt rfl)) ?_
  refine jr.icmp_lt rfl rfl (by first | (refine rgb (by assumption) ?_; exact rfl) | omega) (rgl rfl) (fun h6 => ?_) (fun h6 => ?_)
  · refine jr.aload_n rfl rfl ?_
    refine jr.iload_n rfl rfl ?_
    refine jr_v rfl rfl (Or.inl rfl) rfl rfl (Nat.lt_trans (kx_18 k_t).1 (by decide)) (kx_18 k_t).2 ⟨rfl, Nat.le_of_ble_eq_true rfl, Nat.le_of_ble_eq_true rfl⟩ rfl (jc.deep (c_Headers_isMisplaced_x hC_M k_t (by omega) g_C (fun r1 z1 w1_0 => ?_)) (Nat.le_of_ble_eq_true rfl))
    refine jr.if_eq rfl rfl (by first | (refine rgb (by assumption) ?_; exact rfl) | omega) (fun h24 => ?_) (fun h24 => ?_)
    · refine jr.iload_n rfl rfl ?_
      refine jr_s rfl rfl (Or.inr rfl) ⟨Nat.le_of_ble_eq_true rfl, Nat.le_of_ble_eq_true rfl⟩ rfl rfl (jc.deep (c_PacketWall_isNetKind_x hC_M (by omega) (fun r2 z2 w2_0 w2_1 => ?_)) (Nat.le_of_ble_eq_true rfl))
      refine jr.if_eq rfl rfl (by first | (refine rgb (by assumption) ?_; exact rfl) | omega) (fun h40 => ?_) (fun h40 => ?_)
      · refine jr.pick (ls := [_, _, _]) [1, 2, 0] rfl rfl ?_
        exact c_Headers_sizeIfRight_x_L54 k_t q 0 M  hC_M ht_M (by omega) (by omega) g_S g_N (by have hq0 : M t 4 = F := g_F; have hq1 : M t 5 = G := g_G; have hq2 : M t 6 = H := g_H; omega) p1 (by rw [p0]; omega) (by omega)
      · have sx40 : (1 : Int) ≤ r2 := by omega
        clear h40
        refine jr.aload_n rfl rfl ?_
        refine jr.iload_n rfl rfl ?_
        refine jr.iload_n rfl rfl ?_
        have k3_S : kd (S).toNat = 33 := (congrArg (fun z : Int => kd z.toNat) g_S).symm.trans (CI.x hC_M k_t 7 rfl (by decide))
        refine jr_v rfl rfl (Or.inl rfl) rfl rfl (Nat.lt_trans (kx_18 k_t).1 (by decide)) (kx_18 k_t).2 ⟨rfl, Nat.le_of_ble_eq_true rfl, Nat.le_of_ble_eq_true rfl⟩ rfl (jc.deep (c_Headers_isOtherVersion_x hC_M (FR.rfl _ M) k_t (by omega) (by omega) g_S g_N g_F g_G g_H p1 (by omega) (fun r3 M3 hC_M3 hf_M3 z3 w3_0 => ?_)) (Nat.le_of_ble_eq_true rfl))
        have ht_M3 : FR W_c_Headers_sizeIfRight_x T M3 := FR.t ht_M hf_M3 (kw_sub rfl)
        obtain ⟨v4, e4⟩ : ∃ z_, M3 t 4 = z_ := ⟨_, rfl⟩
        have b4 : (-2147483648) ≤ v4 ∧ v4 ≤ 2147483647 := by rw [← e4]; exact (CI.r hC_M3 k_t (by decide) 4)
        obtain ⟨v5, e5⟩ : ∃ z_, M3 t 5 = z_ := ⟨_, rfl⟩
        have b5 : (-2147483648) ≤ v5 ∧ v5 ≤ 2147483647 := by rw [← e5]; exact (CI.r hC_M3 k_t (by decide) 5)
        obtain ⟨v6, e6⟩ : ∃ z_, M3 t 6 = z_ := ⟨_, rfl⟩
        have b6 : (-2147483648) ≤ v6 ∧ v6 ≤ 2147483647 := by rw [← e6]; exact (CI.r hC_M3 k_t (by decide) 6)
        refine jr.if_eq rfl rfl (by first | (refine rgb (by assumption) ?_; exact rfl) | omega) (fun h49 => ?_) (fun h49 => ?_)
        · have e7 : M3 t 7 = S := (hf_M3.g k_t rfl).trans g_S
          have e8 : M3 ((S.toNat)) 1 = N := (hf_M3.g k3_S rfl).trans g_N
          refine jr.pick (ls := [_, _, _]) [1, 2, 0] rfl rfl ?_
          exact c_Headers_sizeIfRight_x_L54 k_t q 0 M3  hC_M3 ht_M3 (by omega) (by omega) e7 e8 (by have hq0 : M3 t 4 = v4 := e4; have hq1 : M3 t 5 = v5 := e5; have hq2 : M3 t 6 = v6 := e6; omega) (BY8.fr p1 k_by hf_M3 rfl) (by rw [p0]; omega) (by omega)
        · have sx49 : (1 : Int) ≤ r3 := by omega
          clear h49
          refine jr.iconst rfl ?_
          exact jr.ireturn rfl rfl rfl (q _ _ hC_M3 ht_M3 (by first | exact rgq rfl | omega) (by rw [p0]; have hq4 : M3 t 4 = v4 := e4; have hq5 : M3 t 5 = v5 := e5; have hq6 : M3 t 6 = v6 := e6; exact Or.elim w3_0 (fun h => (by have e1 : hsF f N C (bkf (M (t + 1)) C) x y = _ := (by unfold hsF; rw [if_neg (by omega), if_neg (by omega), if_pos (by omega)]); have e2 : hsW f N C (bkf (M (t + 1)) C) x y = _ := (by unfold hsW; rw [if_neg (by omega), if_neg (by omega), if_pos (by omega)]); exact Or.inl ⟨by omega, by omega, by omega, by omega⟩)) (fun h => Or.elim h (fun h => (by have e1 : hsF f N C (bkf (M (t + 1)) C) x y = _ := (by unfold hsF; rw [if_neg (by omega), if_neg (by omega), if_neg (by omega), if_pos (by omega)]); have e2 : hsW f N C (bkf (M (t + 1)) C) x y = _ := (by unfold hsW; rw [if_neg (by omega), if_neg (by omega), if_neg (by omega), if_pos (by omega)]); exact Or.inl ⟨by omega, by omega, by omega, by omega⟩)) (fun h => (by omega)))))
    · have sx24 : (1 : Int) ≤ r1 := by omega
      clear h24
      refine jr.aload_n rfl rfl ?_
      refine jr.iconst rfl ?_
      refine jr.iload_n rfl rfl ?_
      refine jr.iload_n rfl rfl ?_
      refine jr_v rfl rfl (Or.inl rfl) rfl rfl (Nat.lt_trans (kx_18 k_t).1 (by decide)) (kx_18 k_t).2 ⟨rfl, Nat.le_of_ble_eq_true rfl, Nat.le_of_ble_eq_true rfl⟩ rfl (jc.deep (c_Headers_find_x hC_M (FR.rfl _ M) k_t (by omega) (by omega) (by omega) (fun M9 hC_M9 hf_M9 w9_0 w9_1 w9_2 => ?_)) (Nat.le_of_ble_eq_true rfl))
      have ht_M9 : FR W_c_Headers_sizeIfRight_x T M9 := FR.t ht_M hf_M9 (kw_sub rfl)
      have b10 : (-2147483648) ≤ 3 ∧ 3 ≤ 2147483647 := by omega
      have b11 : (-2147483648) ≤ y ∧ y ≤ 2147483647 := by omega
      have b12 : (-2147483648) ≤ x ∧ x ≤ 2147483647 := by omega
      refine jr.iconst rfl ?_
      exact jr.ireturn rfl rfl rfl (q _ _ hC_M9 ht_M9 (by first | exact rgq rfl | omega) (by rw [p0]; have hq4 : M9 t 4 = 3 := w9_0; have hq5 : M9 t 5 = y := w9_1; have hq6 : M9 t 6 = x := w9_2; have e1 : hsF f N C (bkf (M (t + 1)) C) x y = _ := (by unfold hsF; rw [if_neg (by omega), if_pos (by omega)]); have e2 : hsW f N C (bkf (M (t + 1)) C) x y = _ := (by unfold hsW; rw [if_neg (by omega), if_pos (by omega)]); exact Or.inl ⟨by omega, by omega, by omega, by omega⟩))
  · refine jr.aload_n rfl rfl ?_
    refine jr.bipush rfl (jbp _ (nlt rfl)) ?_
    refine jr.iload_n rfl rfl ?_
    refine jr.iload_n rfl rfl ?_
    refine jr_v rfl rfl (Or.inl rfl) rfl rfl (Nat.lt_trans (kx_18 k_t).1 (by decide)) (kx_18 k_t).2 ⟨rfl, Nat.le_of_ble_eq_true rfl, Nat.le_of_ble_eq_true rfl⟩ rfl (jc.deep (c_Headers_find_x hC_M (FR.rfl _ M) k_t (by omega) (by omega) (by omega) (fun M13 hC_M13 hf_M13 w13_0 w13_1 w13_2 => ?_)) (Nat.le_of_ble_eq_true rfl))
    have ht_M13 : FR W_c_Headers_sizeIfRight_x T M13 := FR.t ht_M hf_M13 (kw_sub rfl)
    have b14 : (-2147483648) ≤ 6 ∧ 6 ≤ 2147483647 := by omega
    have b15 : (-2147483648) ≤ y ∧ y ≤ 2147483647 := by omega
    have b16 : (-2147483648) ≤ x ∧ x ≤ 2147483647 := by omega
    refine jr.iconst rfl ?_
    exact jr.ireturn rfl rfl rfl (q _ _ hC_M13 ht_M13 (by first | exact rgq rfl | omega) (by rw [p0]; have hq4 : M13 t 4 = 6 := w13_0; have hq5 : M13 t 5 = y := w13_1; have hq6 : M13 t 6 = x := w13_2; have e1 : hsF f N C (bkf (M (t + 1)) C) x y = _ := (by unfold hsF; rw [if_pos (by omega)]); have e2 : hsW f N C (bkf (M (t + 1)) C) x y = _ := (by unfold hsW; rw [if_pos (by omega)]); exact Or.inl ⟨by omega, by omega, by omega, by omega⟩))
end
