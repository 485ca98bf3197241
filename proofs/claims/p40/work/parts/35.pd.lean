/-! ===== the reference: contracts, 35.pd ===== -/
noncomputable def BT (M : jm) : Prop := M 598 80 ≠ 0 ∧ M 598 90 ≤ 1900
noncomputable def DJ (M : jm) (w : Int) : Prop := SS M (ndo (20 + w)) (0 + 2 + 2) ∧ M 598 96 ≤ M 598 89 ∧ ((w ≠ 8 ∧ w ≠ 9 ∧ AK M) ∨ ((w = 8 ∨ w = 9) ∧ AK2 M ∧ 1 ≤ M 598 90 ∧ M 659 (M 598 90 - 1) = 0))
theorem LB.emit {M : jm} {c op a : Int} (h : op ≠ 0) : LB (ju (ju (ju M 659 c op) 660 c a) 598 90 (c + 1)) := by
  refine Or.inr ?_
  rw [ju_same, show c + 1 - 1 = c by omega, ju_c _ _ (by decide), ju_c _ _ (by decide), ju_same]
  exact h
theorem LB.fr {M M' : jm} (h : LB M) (F : ∀ i : Int, M' 659 i = M 659 i) (g : M' 598 90 = M 598 90) : LB M' := by
  unfold LB at h ⊢
  rw [g, F]
  exact h
theorem dl_deed {w : Int} (h : 4 ≤ w ∧ w ≤ 18) : ndo (20 + w) + dlo (20 + w) = 0 ∧ 0 ≤ ndo (20 + w) ∧ ndo (20 + w) ≤ 5 ∧ (w ≤ 9 → ndo (20 + w) = 0) := by
  rcases (show w = 4 ∨ w = 5 ∨ w = 6 ∨ w = 7 ∨ w = 8 ∨ w = 9 ∨ w = 10 ∨ w = 11 ∨ w = 12 ∨ w = 13 ∨ w = 14 ∨ w = 15 ∨ w = 16 ∨ w = 17 ∨ w = 18 by omega) with r | r | r | r | r | r | r | r | r | r | r | r | r | r | r <;> subst r <;> decide
theorem XS.step {M : jm} {k : Int} (h : XS M 0 (k + 2) 0 0 (-1)) {c : Int} (e : M 598 90 = c) (hk : 0 ≤ k) (h8 : M 598 100 - M 598 107 - 0 ≤ 13) : XS (ju (ju (ju M 659 c 0) 660 c 0) 598 90 (c + 1)) 0 k 0 1 (-1) := XS.emit h e 0 0 k (by unfold vop; omega) (by unfold exo; omega) (by decide) (by unfold jpo; omega) (by omega) (by omega) hk h8 0 (by decide) (by omega)
theorem XS.jin {M : jm} {k z : Int} (h : XS M 1 (k + 2) 0 z (-1)) {c : Int} (e : M 598 90 = c) (hk : 0 ≤ k) (h8 : M 598 100 - M 598 107 - 0 ≤ 13) : XS (ju (ju (ju M 659 c 1) 660 c 0) 598 90 (c + 1)) 0 k 0 1 c := XS.emit (XS.setx h c) e 1 0 k (by unfold vop; omega) (by unfold exo; omega) (by decide) (fun _ => rfl) (by omega) (by omega) hk h8 0 (by decide) (by omega)
theorem XS.fin {M : jm} {k z : Int} (h : XS M 0 (k + 2) 0 z (-1)) {c : Int} (e : M 598 90 = c) (hk : 0 ≤ k) (h8 : M 598 100 - M 598 107 - 0 ≤ 13) : XS (ju (ju (ju M 659 c 3) 660 c 0) 598 90 (c + 1)) 0 k 0 1 (-1) := XS.emit h e 3 0 k (by unfold vop; omega) (by unfold exo; omega) (by decide) (by unfold jpo; omega) (by omega) (by omega) hk h8 0 (by decide) (by omega)
theorem XS.deed {M : jm} {k w z : Int} (h : XS M (ndo (20 + w)) (k + 2) 0 z (-1)) {c : Int} (e : M 598 90 = c) (hw : 4 ≤ w ∧ w ≤ 18) (hk : 0 ≤ k) (h8 : M 598 100 - M 598 107 - 0 ≤ 13) (h6 : w = 8 ∨ w = 9 → 1 ≤ c ∧ M 659 (c - 1) = 0 ∧ 0 < M 598 88) : XS (ju (ju (ju M 659 c (20 + w)) 660 c 0) 598 90 (c + 1)) 0 k 0 1 (-1) := by
  have dl := dl_deed hw
  exact XS.emit h e (20 + w) 0 k (by unfold vop; omega) (by unfold exo; omega) rfl (by unfold jpo; omega) (fun q => by have := h6 (by omega); omega) (by omega) hk h8 0 (by omega) (by omega)
theorem r_beginBlock {A : Nat → Option (Nat × (Nat → Int32))} {Q : Option Value → jm → Prop} {M : jm} (hI_M : RI M) (hH_M : RH M) (hS_M : RF M) {kd : Int} (h_kd : 0 ≤ kd ∧ kd ≤ 3) {p : Int} (h_p : 0 ≤ p ∧ p ≤ 2200) (p0 : M 598 73 ≤ M 598 72) (p1 : (M 598 80 = 0 → M 598 100 ≤ 12)) (p2 : M 598 107 ≤ 15) (q : ∀ (M' : jm), RI M' → RH M' → RF M' → (M' 598 80 = 0 → M 598 74 = 3) → M' 598 73 ≤ M' 598 72 → M 598 73 ≤ M' 598 73 → TK M' ≤ TK M → (M 598 80 ≠ 0 → M' 598 80 ≠ 0) → (M' 598 80 = 0 → TK M' < TK M) → (M' 598 80 = 0 → M' 598 100 ≤ 12) → M' 598 107 = M 598 107 + 1 → ((M 598 74 = 3 → M 598 79 ≠ 10 ∧ M 598 79 ≠ 11) → (M' 598 74 = 3 → M' 598 79 ≠ 10 ∧ M' 598 79 ≠ 11)) → (∀ b k k' z x : Int, XS M b k 0 z x → M' 598 80 = 0 → (M 598 107 = 0 → kd = M 598 101 ∧ 0 ≤ kd ∧ kd ≤ 1 ∧ x = -1) → (1 ≤ M 598 107 → 2 ≤ kd ∧ kd ≤ 3 ∧ 0 ≤ p ∧ p < M 598 90 ∧ M 659 p = kd - 1 ∧ x = p) → k' + RVq (M 598 107 + 1) (M 598 101) ≤ k + RVq (M 598 107) (M 598 101) → 0 ≤ k' → XS M' b k' 0 z (-1)) → (∀ (a : Nat) (i : Int), a ≠ 598 → a ≠ 668 → a ≠ 669 → M' a i = M a i) → (∀ (i : Int), i ≠ 73 → i ≠ 74 → i ≠ 75 → i ≠ 76 → i ≠ 77 → i ≠ 78 → i ≠ 79 → i ≠ 80 → i ≠ 81 → i ≠ 100 → i ≠ 107 → M' 598 i = M 598 i) → Q none M') : jc A 5 365 [.ref (598), .int (Int32.ofInt (kd)), .int (Int32.ofInt (p))] M Q := by
  refine jc_of (m := xm_365) rfl (Nat.le_of_ble_eq_true rfl) rfl ?_
  refine jr.aload_n rfl rfl ?_
  refine jr.bipush rfl (jbp _ (nlt rfl)) ?_
  obtain ⟨v2, e2⟩ : ∃ z, M 598 73 = z := ⟨_, rfl⟩
  have b2 : 0 ≤ v2 ∧ v2 ≤ 1600 := by rw [← e2]; exact hI_M 598 73 (Nat.le_of_ble_eq_true rfl)
  obtain ⟨v3, e3⟩ : ∃ z, M 598 72 = z := ⟨_, rfl⟩
  have b3 : 0 ≤ v3 ∧ v3 ≤ 1600 := by rw [← e3]; exact hI_M 598 72 (Nat.le_of_ble_eq_true rfl)
  obtain ⟨v4, e4⟩ : ∃ z, M 598 80 = z := ⟨_, rfl⟩
  have b4 : 0 ≤ v4 ∧ v4 ≤ 7 := by rw [← e4]; exact hI_M 598 80 (Nat.le_of_ble_eq_true rfl)
  obtain ⟨v5, e5⟩ : ∃ z, M 598 100 = z := ⟨_, rfl⟩
  have b5 : 0 ≤ v5 ∧ v5 ≤ 13 := by rw [← e5]; exact hI_M 598 100 (Nat.le_of_ble_eq_true rfl)
  refine jr_v rfl rfl (Or.inl rfl) rfl rfl (nlt rfl) rfl ⟨rfl, Nat.le_of_ble_eq_true rfl, Nat.le_of_ble_eq_true rfl⟩ rfl (jc.deep (r_wantDeeper hI_M hH_M hS_M  (by omega) (by rw [e2, e3]; omega) (by rw [e4, e5]; intro q; omega) (fun M1 hI_M1 hH_M1 hS_M1  w1_0 w1_1 w1_2 w1_3 w1_4 w1_5 w1_6 w1_7 w1_8 w1_9 w1_10 => ?_)) (Nat.le_of_ble_eq_true rfl))
  refine jr.aload_n rfl rfl ?_
  refine jr.getf (i := 108) (v := .ref 668) rfl rfl (nlt rfl) rfl (nlt rfl) rfl rfl rfl rfl ?_
  refine jr.aload_n rfl rfl ?_
  obtain ⟨v6, e6⟩ : ∃ z, M 598 107 = z := ⟨_, rfl⟩
  have b6 : 0 ≤ v6 ∧ v6 ≤ 16 := by rw [← e6]; exact hI_M 598 107 (Nat.le_of_ble_eq_true rfl)
  have e7 : M1 598 107 = v6 := ((w1_10 107 (zne rfl) (zne rfl) (zne rfl) (zne rfl) (zne rfl) (zne rfl) (zne rfl) (zne rfl) (zne rfl) (zne rfl)).trans e6)
  refine jr.getf (i := 107) (x := v6) (v := .int (Int32.ofInt (v6))) rfl rfl (nlt rfl) rfl (nlt rfl) rfl rfl e7 rfl ?_
  refine jr.iload_n rfl rfl ?_
  refine jr.iast (i := v6) (x := kd) rfl (nlt rfl) rfl (Nat.le_of_ble_eq_true rfl) (by omega) (by omega) ?_
  refine jr.aload_n rfl rfl ?_
  refine jr.getf (i := 109) (v := .ref 669) rfl rfl (nlt rfl) rfl (nlt rfl) rfl rfl rfl rfl ?_
  refine jr.aload_n rfl rfl ?_
  refine jr.getf (i := 107) (x := v6) (v := .int (Int32.ofInt (v6))) rfl rfl (nlt rfl) rfl (nlt rfl) rfl rfl ((ju_c _ _ (by decide)).trans e7) rfl ?_
  refine jr.iload_n rfl rfl ?_
  refine jr.iast (i := v6) (x := p) rfl (nlt rfl) rfl (Nat.le_of_ble_eq_true rfl) (by omega) (by omega) ?_
  refine jr.aload_n rfl rfl ?_
  refine jr.dup rfl rfl ?_
  refine jr.getf (i := 107) (x := v6) (v := .int (Int32.ofInt (v6))) rfl rfl (nlt rfl) rfl (nlt rfl) rfl rfl ((ju_c _ _ (by decide)).trans ((ju_c _ _ (by decide)).trans e7)) rfl ?_
  refine jr.iconst rfl ?_
  refine jr.iadd rfl ?_
  refine jr.putf (i := 107) (x := (v6 + 1)) rfl rfl (nlt rfl) rfl (nlt rfl) rfl rfl rfl rfl rfl ?_
  have e8 : M1 598 72 = v3 := ((w1_10 72 (zne rfl) (zne rfl) (zne rfl) (zne rfl) (zne rfl) (zne rfl) (zne rfl) (zne rfl) (zne rfl) (zne rfl)).trans e3)
  have y9 : (ju (ju (ju M1 668 v6 kd) 669 v6 p) 598 107 (v6 + 1)) 598 72 = v3 := ((ju_i _ _ (zne (by decide))).trans ((ju_c _ _ (by decide)).trans ((ju_c _ _ (by decide)).trans e8)))
  obtain ⟨v10, e10⟩ : ∃ z, M1 598 73 = z := ⟨_, rfl⟩
  have b10 : 0 ≤ v10 ∧ v10 ≤ 1600 := by rw [← e10]; exact hI_M1 598 73 (Nat.le_of_ble_eq_true rfl)
  have y11 : (ju (ju (ju M1 668 v6 kd) 669 v6 p) 598 107 (v6 + 1)) 598 73 = v10 := ((ju_i _ _ (zne (by decide))).trans ((ju_c _ _ (by decide)).trans ((ju_c _ _ (by decide)).trans e10)))
  obtain ⟨v12, e12⟩ : ∃ z, M1 598 74 = z := ⟨_, rfl⟩
  have b12 : 0 ≤ v12 ∧ v12 ≤ 4 := by rw [← e12]; exact hI_M1 598 74 (Nat.le_of_ble_eq_true rfl)
  have y13 : (ju (ju (ju M1 668 v6 kd) 669 v6 p) 598 107 (v6 + 1)) 598 74 = v12 := ((ju_i _ _ (zne (by decide))).trans ((ju_c _ _ (by decide)).trans ((ju_c _ _ (by decide)).trans e12)))
  obtain ⟨v14, e14⟩ : ∃ z, M1 598 79 = z := ⟨_, rfl⟩
  have b14 : 0 ≤ v14 ∧ v14 ≤ 255 := by rw [← e14]; exact hI_M1 598 79 (Nat.le_of_ble_eq_true rfl)
  have y15 : (ju (ju (ju M1 668 v6 kd) 669 v6 p) 598 107 (v6 + 1)) 598 79 = v14 := ((ju_i _ _ (zne (by decide))).trans ((ju_c _ _ (by decide)).trans ((ju_c _ _ (by decide)).trans e14)))
  obtain ⟨v16, e16⟩ : ∃ z, M1 598 80 = z := ⟨_, rfl⟩
  have b16 : 0 ≤ v16 ∧ v16 ≤ 7 := by rw [← e16]; exact hI_M1 598 80 (Nat.le_of_ble_eq_true rfl)
  have y17 : (ju (ju (ju M1 668 v6 kd) 669 v6 p) 598 107 (v6 + 1)) 598 80 = v16 := ((ju_i _ _ (zne (by decide))).trans ((ju_c _ _ (by decide)).trans ((ju_c _ _ (by decide)).trans e16)))
  obtain ⟨v18, e18⟩ : ∃ z, M1 598 100 = z := ⟨_, rfl⟩
  have b18 : 0 ≤ v18 ∧ v18 ≤ 13 := by rw [← e18]; exact hI_M1 598 100 (Nat.le_of_ble_eq_true rfl)
  have y19 : (ju (ju (ju M1 668 v6 kd) 669 v6 p) 598 107 (v6 + 1)) 598 100 = v18 := ((ju_i _ _ (zne (by decide))).trans ((ju_c _ _ (by decide)).trans ((ju_c _ _ (by decide)).trans e18)))
  have y20 : (ju (ju (ju M1 668 v6 kd) 669 v6 p) 598 107 (v6 + 1)) 598 107 = v6 + 1 := (ju_same _ _ _ _)
  have y21 : TK (ju (ju (ju M1 668 v6 kd) 669 v6 p) 598 107 (v6 + 1)) = TK M1 := ((TK.o (Or.inr ⟨by decide, by decide⟩)).trans ((TK.o (Or.inl (by decide))).trans ((TK.o (Or.inl (by decide))).trans rfl)))
  exact jr.vreturn rfl rfl (q _ (RI.u (RI.u (RI.u hI_M1 (a := 668) (i := v6) (by rw [xri_row rfl rfl]; show (0 : Int) ≤ _ ∧ _ ≤ (3 : Int); omega)) (a := 669) (i := v6) (by rw [xri_row rfl rfl]; show (0 : Int) ≤ _ ∧ _ ≤ (2200 : Int); omega)) (a := 598) (i := 107) (show (0 : Int) ≤ _ ∧ _ ≤ (16 : Int) from by omega)) (RH.o (RH.o (RH.o hH_M1 (by decide) (by decide) (by decide)) (by decide) (by decide) (by decide)) (by decide) (by decide) (by decide)) (RF.o (RF.o (RF.o hS_M1 (by decide) (by decide)) (by decide) (by decide)) (by decide) (by decide))  (by omega) (by omega) (by omega) (by omega) (by omega) (by omega) (by omega) (by omega) (by omega) (fun b k k' z x hx hf h1 h2 hk hk0 => by have x88 := w1_10 88 (zne rfl) (zne rfl) (zne rfl) (zne rfl) (zne rfl) (zne rfl) (zne rfl) (zne rfl) (zne rfl) (zne rfl); have x90 := w1_10 90 (zne rfl) (zne rfl) (zne rfl) (zne rfl) (zne rfl) (zne rfl) (zne rfl) (zne rfl) (zne rfl) (zne rfl); have x101 := w1_10 101 (zne rfl) (zne rfl) (zne rfl) (zne rfl) (zne rfl) (zne rfl) (zne rfl) (zne rfl) (zne rfl) (zne rfl); have x107 := w1_10 107 (zne rfl) (zne rfl) (zne rfl) (zne rfl) (zne rfl) (zne rfl) (zne rfl) (zne rfl) (zne rfl) (zne rfl); have x89 := w1_10 89 (zne rfl) (zne rfl) (zne rfl) (zne rfl) (zne rfl) (zne rfl) (zne rfl) (zne rfl) (zne rfl) (zne rfl); have dpx := XS.dep hx; have hx1 := XS.fr2 hx w1_9 x88 x90 x101 x107 (k' := k) (d' := 1) (z' := z) (by omega) (XS.kz hx).1 ⟨(XS.kz hx).2, Int.le_refl _⟩ (by omega); exact XS.blk1 hx1 e7 kd p k' (fun w => by have q := h1 (by omega); omega) (fun w => by obtain ⟨u1, u2, u3, u4, u5, u6⟩ := h2 (by omega); exact ⟨u1, u2, u3, by omega, by rw [w1_9 659 _ (nne rfl)]; exact u5, u6⟩) (by rw [x101, ← e6]; exact hk) hk0 (by omega)) (fun a i f598 f668 f669 => ((ju_c _ _ f598).trans ((ju_c _ _ f669).trans ((ju_c _ _ f668).trans ((w1_9 a i f598).trans rfl))))) (fun i g73 g74 g75 g76 g77 g78 g79 g80 g81 g100 g107 => ((ju_i _ _ g107).trans ((ju_c _ _ (by decide)).trans ((ju_c _ _ (by decide)).trans ((w1_10 i g73 g74 g75 g76 g77 g78 g79 g80 g81 g100).trans rfl))))))
theorem RVq_s {n ib : Int} (h : 1 ≤ n) : RVq (n + 1) ib = RVq n ib + 2 := by
  unfold RVq
  rw [if_neg (by omega), if_neg (by omega : ¬ n = 0)]
  split <;> omega
theorem c_exp {A : Nat → Option (Nat × (Nat → Int32))} {M : jm} {Q : Option Value → jm → Prop} {b kk : Int} (hI_M : RI M) (hH_M : RH M) (hS_M : RF M) (p0 : SS M b kk) (p1 : 0 ≤ b ∧ b ≤ 4) (k1 : ∀ M' : jm, RI M' → RH M' → RF M' → BS M' → TK M' ≤ TK M → M' 598 73 ≤ M' 598 72 → CP M M' → M 598 89 ≤ M' 598 89 → (∀ (a : Nat) (i : Int), a ≠ 598 → a ≠ 659 → a ≠ 660 → a ≠ 664 → a ≠ 665 → a ≠ 666 → a ≠ 667 → M' a i = M a i) → (∀ (i : Int), i ≠ 73 → i ≠ 74 → i ≠ 75 → i ≠ 76 → i ≠ 77 → i ≠ 78 → i ≠ 79 → i ≠ 80 → i ≠ 81 → i ≠ 89 → i ≠ 90 → i ≠ 100 → i ≠ 102 → M' 598 i = M 598 i) → Q none M') (k2 : ∀ M' : jm, RI M' → RH M' → RF M' → SS M' (b + 1) kk → TK M' < TK M → CP M M' → M 598 89 ≤ M' 598 89 → (∀ (a : Nat) (i : Int), a ≠ 598 → a ≠ 659 → a ≠ 660 → a ≠ 664 → a ≠ 665 → a ≠ 666 → a ≠ 667 → M' a i = M a i) → (∀ (i : Int), i ≠ 73 → i ≠ 74 → i ≠ 75 → i ≠ 76 → i ≠ 77 → i ≠ 78 → i ≠ 79 → i ≠ 80 → i ≠ 81 → i ≠ 89 → i ≠ 90 → i ≠ 100 → i ≠ 102 → M' 598 i = M 598 i) → Q none M') : jc A 7 364 [.ref (598)] M Q := r_exp hI_M hH_M hS_M p0 p1 (fun M' a1 a2 a3 w0 w1 w2 w3 w4 w5 w6 w7 => by
  rcases w0 with z | z
  · exact k1 M' a1 a2 a3 z w1 w2 w4 w5 w6 w7
  · exact k2 M' a1 a2 a3 z.1 z.2 w4 w5 w6 w7)
theorem r_deed_L230 {A : Nat → Option (Nat × (Nat → Int32))} {Q : Option Value → jm → Prop} {M0 : jm} (q : ∀ (M' : jm), RI M' → RH M' → RF M' → (BT M' ∨ (DS M' 0 ∧ TK M' < TK M0)) → TK M' ≤ TK M0 → M' 598 73 ≤ M' 598 72 → (M' 598 80 ≠ 0 ∨ TK M' < TK M0) → M0 598 107 ≤ M' 598 107 → (∀ (a : Nat) (i : Int), a ≠ 598 → a ≠ 659 → a ≠ 660 → a ≠ 661 → a ≠ 662 → a ≠ 663 → a ≠ 664 → a ≠ 665 → a ≠ 666 → a ≠ 667 → a ≠ 668 → a ≠ 669 → M' a i = M0 a i) → (∀ (i : Int), i ≠ 73 → i ≠ 74 → i ≠ 75 → i ≠ 76 → i ≠ 77 → i ≠ 78 → i ≠ 79 → i ≠ 80 → i ≠ 81 → i ≠ 89 → i ≠ 90 → i ≠ 96 → i ≠ 100 → i ≠ 102 → i ≠ 107 → M' 598 i = M0 598 i) → Q none M') : ∀ (M : jm) (w : Int), RI M → RH M → RF M → (∀ (a : Nat) (i : Int), a ≠ 598 → a ≠ 659 → a ≠ 660 → a ≠ 661 → a ≠ 662 → a ≠ 663 → a ≠ 664 → a ≠ 665 → a ≠ 666 → a ≠ 667 → a ≠ 668 → a ≠ 669 → M a i = M0 a i) → (∀ (i : Int), i ≠ 73 → i ≠ 74 → i ≠ 75 → i ≠ 76 → i ≠ 77 → i ≠ 78 → i ≠ 79 → i ≠ 80 → i ≠ 81 → i ≠ 89 → i ≠ 90 → i ≠ 96 → i ≠ 100 → i ≠ 102 → i ≠ 107 → M 598 i = M0 598 i) → 4 ≤ w ∧ w ≤ 18 → (BS M ∨ DJ M w) → M 598 73 ≤ M 598 72 → TK M ≤ TK M0 → (M 598 80 ≠ 0 ∨ TK M < TK M0) → M 598 107 = M0 598 107 → 1 ≤ M 598 88 → M 598 107 ≤ 12 → jr A 7 xm_367 230 [(1, .int (Int32.ofInt (w))), (0, .ref (598))] [] M Q := by
    intro M w hI_M hH_M hS_M hF_M hG_M h_w hy0 hy1 hy2 hy3 hy4 hy5 hy6
    rcases hy0 with zb | zg
    · obtain ⟨za, zc⟩ := zb
      refine jr.aload_n rfl rfl ?_
      refine jr.bipush rfl (jbp _ (nlt rfl)) ?_
      refine jr.iload_n rfl rfl ?_
      refine jr.iadd rfl ?_
      refine jr.lconst (x := 0) rfl (by decide) ?_
      obtain ⟨v1, e1⟩ : ∃ z, M 598 90 = z := ⟨_, rfl⟩
      have b1 : 0 ≤ v1 ∧ v1 ≤ 2200 := by rw [← e1]; exact hI_M 598 90 (Nat.le_of_ble_eq_true rfl)
      refine jr_v rfl rfl (Or.inl rfl) rfl rfl (nlt rfl) rfl ⟨rfl, Nat.le_of_ble_eq_true rfl, Nat.le_of_ble_eq_true rfl⟩ rfl (jc.deep (r_emit e1 (by omega) (by omega) (by omega) ?_) (Nat.le_of_ble_eq_true rfl))
      refine jr.aload_n rfl rfl ?_
      refine jr.bipush rfl (jbp _ (nlt rfl)) ?_
      obtain ⟨v3, e3⟩ : ∃ z, M 598 73 = z := ⟨_, rfl⟩
      have b3 : 0 ≤ v3 ∧ v3 ≤ 1600 := by rw [← e3]; exact hI_M 598 73 (Nat.le_of_ble_eq_true rfl)
      obtain ⟨v4, e4⟩ : ∃ z, M 598 72 = z := ⟨_, rfl⟩
      have b4 : 0 ≤ v4 ∧ v4 ≤ 1600 := by rw [← e4]; exact hI_M 598 72 (Nat.le_of_ble_eq_true rfl)
      obtain ⟨v6, e6⟩ : ∃ z, M 598 74 = z := ⟨_, rfl⟩
      have b6 : 0 ≤ v6 ∧ v6 ≤ 4 := by rw [← e6]; exact hI_M 598 74 (Nat.le_of_ble_eq_true rfl)
      obtain ⟨v8, e8⟩ : ∃ z, M 598 79 = z := ⟨_, rfl⟩
      have b8 : 0 ≤ v8 ∧ v8 ≤ 255 := by rw [← e8]; exact hI_M 598 79 (Nat.le_of_ble_eq_true rfl)
      obtain ⟨v10, e10⟩ : ∃ z, M 598 80 = z := ⟨_, rfl⟩
      have b10 : 0 ≤ v10 ∧ v10 ≤ 7 := by rw [← e10]; exact hI_M 598 80 (Nat.le_of_ble_eq_true rfl)
      refine jr_v rfl rfl (Or.inl rfl) rfl rfl (nlt rfl) rfl ⟨rfl, Nat.le_of_ble_eq_true rfl, Nat.le_of_ble_eq_true rfl⟩ rfl (jc.deep (r_want (RI.u (RI.u (RI.u hI_M (a := 659) (i := v1) (by rw [xri_row rfl rfl]; show (0 : Int) ≤ _ ∧ _ ≤ (1000 : Int); omega)) (a := 660) (i := v1) (by rw [xri_row rfl rfl]; show (-9223372036854775808 : Int) ≤ _ ∧ _ ≤ (9223372036854775807 : Int); omega)) (a := 598) (i := 90) (show (0 : Int) ≤ _ ∧ _ ≤ (2200 : Int) from by omega)) (RH.o (RH.o (RH.o hH_M (by decide) (by decide) (by decide)) (by decide) (by decide) (by decide)) (by decide) (by decide) (by decide)) (RF.o (RF.o (RF.o hS_M (by decide) (by decide)) (by decide) (by decide)) (by decide) (by decide))  (by omega) (by rw [((ju_i _ _ (zne (by decide))).trans ((ju_c _ _ (by decide)).trans ((ju_c _ _ (by decide)).trans e3))), ((ju_i _ _ (zne (by decide))).trans ((ju_c _ _ (by decide)).trans ((ju_c _ _ (by decide)).trans e4)))]; omega) (fun M2 hI_M2 hH_M2 hS_M2  w2_0 w2_1 w2_2 w2_3 w2_4 w2_5 w2_6 w2_7 => ?_)) (Nat.le_of_ble_eq_true rfl))
      have y5 : (ju (ju (ju M 659 v1 (20 + w)) 660 v1 0) 598 90 (v1 + 1)) 598 73 = v3 := ((ju_i _ _ (zne (by decide))).trans ((ju_c _ _ (by decide)).trans ((ju_c _ _ (by decide)).trans e3)))
      have y7 : (ju (ju (ju M 659 v1 (20 + w)) 660 v1 0) 598 90 (v1 + 1)) 598 74 = v6 := ((ju_i _ _ (zne (by decide))).trans ((ju_c _ _ (by decide)).trans ((ju_c _ _ (by decide)).trans e6)))
      have y9 : (ju (ju (ju M 659 v1 (20 + w)) 660 v1 0) 598 90 (v1 + 1)) 598 79 = v8 := ((ju_i _ _ (zne (by decide))).trans ((ju_c _ _ (by decide)).trans ((ju_c _ _ (by decide)).trans e8)))
      have y11 : (ju (ju (ju M 659 v1 (20 + w)) 660 v1 0) 598 90 (v1 + 1)) 598 80 = v10 := ((ju_i _ _ (zne (by decide))).trans ((ju_c _ _ (by decide)).trans ((ju_c _ _ (by decide)).trans e10)))
      have tb2 : TK (ju (ju (ju M 659 v1 (20 + w)) 660 v1 0) 598 90 (v1 + 1)) = TK M := ((TK.o (Or.inr ⟨by decide, by decide⟩)).trans ((TK.o (Or.inl (by decide))).trans ((TK.o (Or.inl (by decide))).trans rfl)))
      have e12 : M2 598 72 = v4 := ((w2_7 72 (zne rfl) (zne rfl) (zne rfl) (zne rfl) (zne rfl) (zne rfl) (zne rfl) (zne rfl) (zne rfl)).trans ((ju_i _ _ (zne (by decide))).trans ((ju_c _ _ (by decide)).trans ((ju_c _ _ (by decide)).trans e4))))
      obtain ⟨v14, e14⟩ : ∃ z, M2 598 73 = z := ⟨_, rfl⟩
      have b14 : 0 ≤ v14 ∧ v14 ≤ 1600 := by rw [← e14]; exact hI_M2 598 73 (Nat.le_of_ble_eq_true rfl)
      obtain ⟨v16, e16⟩ : ∃ z, M2 598 74 = z := ⟨_, rfl⟩
      have b16 : 0 ≤ v16 ∧ v16 ≤ 4 := by rw [← e16]; exact hI_M2 598 74 (Nat.le_of_ble_eq_true rfl)
      obtain ⟨v18, e18⟩ : ∃ z, M2 598 79 = z := ⟨_, rfl⟩
      have b18 : 0 ≤ v18 ∧ v18 ≤ 255 := by rw [← e18]; exact hI_M2 598 79 (Nat.le_of_ble_eq_true rfl)
      obtain ⟨v20, e20⟩ : ∃ z, M2 598 80 = z := ⟨_, rfl⟩
      have b20 : 0 ≤ v20 ∧ v20 ≤ 7 := by rw [← e20]; exact hI_M2 598 80 (Nat.le_of_ble_eq_true rfl)
      obtain ⟨v22, e22⟩ : ∃ z, M 598 89 = z := ⟨_, rfl⟩
      have b22 : 0 ≤ v22 ∧ v22 ≤ 301 := by rw [← e22]; exact hI_M 598 89 (Nat.le_of_ble_eq_true rfl)
      have e23 : M2 598 89 = v22 := ((w2_7 89 (zne rfl) (zne rfl) (zne rfl) (zne rfl) (zne rfl) (zne rfl) (zne rfl) (zne rfl) (zne rfl)).trans ((ju_i _ _ (zne (by decide))).trans ((ju_c _ _ (by decide)).trans ((ju_c _ _ (by decide)).trans e22))))
      have e25 : M2 598 90 = v1 + 1 := ((w2_7 90 (zne rfl) (zne rfl) (zne rfl) (zne rfl) (zne rfl) (zne rfl) (zne rfl) (zne rfl) (zne rfl)).trans (ju_same _ _ _ _))
      obtain ⟨v27, e27⟩ : ∃ z, M 598 96 = z := ⟨_, rfl⟩
      have b27 : 0 ≤ v27 ∧ v27 ≤ 300 := by rw [← e27]; exact hI_M 598 96 (Nat.le_of_ble_eq_true rfl)
      have e28 : M2 598 96 = v27 := ((w2_7 96 (zne rfl) (zne rfl) (zne rfl) (zne rfl) (zne rfl) (zne rfl) (zne rfl) (zne rfl) (zne rfl)).trans ((ju_i _ _ (zne (by decide))).trans ((ju_c _ _ (by decide)).trans ((ju_c _ _ (by decide)).trans e27))))
      obtain ⟨v30, e30⟩ : ∃ z, M 598 100 = z := ⟨_, rfl⟩
      have b30 : 0 ≤ v30 ∧ v30 ≤ 13 := by rw [← e30]; exact hI_M 598 100 (Nat.le_of_ble_eq_true rfl)
      have e31 : M2 598 100 = v30 := ((w2_7 100 (zne rfl) (zne rfl) (zne rfl) (zne rfl) (zne rfl) (zne rfl) (zne rfl) (zne rfl) (zne rfl)).trans ((ju_i _ _ (zne (by decide))).trans ((ju_c _ _ (by decide)).trans ((ju_c _ _ (by decide)).trans e30))))
      obtain ⟨v33, e33⟩ : ∃ z, M 598 107 = z := ⟨_, rfl⟩
      have b33 : 0 ≤ v33 ∧ v33 ≤ 16 := by rw [← e33]; exact hI_M 598 107 (Nat.le_of_ble_eq_true rfl)
      have e34 : M2 598 107 = v33 := ((w2_7 107 (zne rfl) (zne rfl) (zne rfl) (zne rfl) (zne rfl) (zne rfl) (zne rfl) (zne rfl) (zne rfl)).trans ((ju_i _ _ (zne (by decide))).trans ((ju_c _ _ (by decide)).trans ((ju_c _ _ (by decide)).trans e33))))
      exact jr.vreturn rfl rfl (q _ hI_M2 hH_M2 hS_M2  (Or.inl ⟨by omega, by omega⟩) (by omega) (by omega) (by omega) (by omega) (fun a i f598 f659 f660 f661 f662 f663 f664 f665 f666 f667 f668 f669 => ((w2_6 a i f598).trans ((ju_c _ _ f598).trans ((ju_c _ _ f660).trans ((ju_c _ _ f659).trans (hF_M a i f598 f659 f660 f661 f662 f663 f664 f665 f666 f667 f668 f669)))))) (fun i g73 g74 g75 g76 g77 g78 g79 g80 g81 g89 g90 g96 g100 g102 g107 => ((w2_7 i g73 g74 g75 g76 g77 g78 g79 g80 g81).trans ((ju_i _ _ g90).trans ((ju_c _ _ (by decide)).trans ((ju_c _ _ (by decide)).trans (hG_M i g73 g74 g75 g76 g77 g78 g79 g80 g81 g89 g90 g96 g100 g102 g107)))))))
    · obtain ⟨⟨sa, hX, sc, sd, se, sf⟩, sk, dj⟩ := zg
      have dpx := XS.dep hX
      have sl := XS.sgle hX
      have dlw := dl_deed (w := w) (by omega)
      have bM_107 : (0 : Int) ≤ M 598 107 ∧ M 598 107 ≤ 16 := hI_M 598 107 (Nat.le_of_ble_eq_true rfl)
      have bM_73 : (0 : Int) ≤ M 598 73 ∧ M 598 73 ≤ 1600 := hI_M 598 73 (Nat.le_of_ble_eq_true rfl)
      have bM_88 : (0 : Int) ≤ M 598 88 ∧ M 598 88 ≤ 16 := hI_M 598 88 (Nat.le_of_ble_eq_true rfl)
      have bM_100 : (0 : Int) ≤ M 598 100 ∧ M 598 100 ≤ 13 := hI_M 598 100 (Nat.le_of_ble_eq_true rfl)
      refine jr.aload_n rfl rfl ?_
      refine jr.bipush rfl (jbp _ (nlt rfl)) ?_
      refine jr.iload_n rfl rfl ?_
      refine jr.iadd rfl ?_
      refine jr.lconst (x := 0) rfl (by decide) ?_
      obtain ⟨v36, e36⟩ : ∃ z, M 598 90 = z := ⟨_, rfl⟩
      have b36 : 0 ≤ v36 ∧ v36 ≤ 2200 := by rw [← e36]; exact hI_M 598 90 (Nat.le_of_ble_eq_true rfl)
      obtain ⟨v37, e37⟩ : ∃ z, M 598 100 = z := ⟨_, rfl⟩
      have b37 : 0 ≤ v37 ∧ v37 ≤ 13 := by rw [← e37]; exact hI_M 598 100 (Nat.le_of_ble_eq_true rfl)
      obtain ⟨v39, e39⟩ : ∃ z, M 598 107 = z := ⟨_, rfl⟩
      have b39 : 0 ≤ v39 ∧ v39 ≤ 16 := by rw [← e39]; exact hI_M 598 107 (Nat.le_of_ble_eq_true rfl)
      obtain ⟨v41, e41⟩ : ∃ z, M 598 88 = z := ⟨_, rfl⟩
      have b41 : 0 ≤ v41 ∧ v41 ≤ 16 := by rw [← e41]; exact hI_M 598 88 (Nat.le_of_ble_eq_true rfl)
      refine jr_v rfl rfl (Or.inl rfl) rfl rfl (nlt rfl) rfl ⟨rfl, Nat.le_of_ble_eq_true rfl, Nat.le_of_ble_eq_true rfl⟩ rfl (jc.deep (r_emit e36 (by omega) (by omega) (by omega) ?_) (Nat.le_of_ble_eq_true rfl))
      have hX := XS.deed hX e36 (by omega) (by omega) (by omega) (fun q => by rcases dj with ⟨z1, z2, z3⟩ | ⟨z1, z2, z3, z4⟩; (exfalso; omega); (rw [e36] at z4; exact ⟨by omega, z4, by omega⟩))
      have hA : AK (ju (ju (ju M 659 v36 (20 + w)) 660 v36 0) 598 90 (v36 + 1)) := by rcases dj with ⟨z1, z2, z3⟩ | ⟨z1, z2, z3, z4⟩; (exact AK.emit (op := 20 + w) (a := 0) z3 e36); (exact AK2.emit (a := 0) z2 e36 (by omega) (by omega))
      have hB : LB _ := LB.emit (M := M) (c := v36) (op := 20 + w) (a := 0) (by omega)
      refine jr.aload_n rfl rfl ?_
      refine jr.bipush rfl (jbp _ (nlt rfl)) ?_
      obtain ⟨v44, e44⟩ : ∃ z, M 598 73 = z := ⟨_, rfl⟩
      have b44 : 0 ≤ v44 ∧ v44 ≤ 1600 := by rw [← e44]; exact hI_M 598 73 (Nat.le_of_ble_eq_true rfl)
      obtain ⟨v45, e45⟩ : ∃ z, M 598 72 = z := ⟨_, rfl⟩
      have b45 : 0 ≤ v45 ∧ v45 ≤ 1600 := by rw [← e45]; exact hI_M 598 72 (Nat.le_of_ble_eq_true rfl)
      obtain ⟨v47, e47⟩ : ∃ z, M 598 74 = z := ⟨_, rfl⟩
      have b47 : 0 ≤ v47 ∧ v47 ≤ 4 := by rw [← e47]; exact hI_M 598 74 (Nat.le_of_ble_eq_true rfl)
      obtain ⟨v49, e49⟩ : ∃ z, M 598 79 = z := ⟨_, rfl⟩
      have b49 : 0 ≤ v49 ∧ v49 ≤ 255 := by rw [← e49]; exact hI_M 598 79 (Nat.le_of_ble_eq_true rfl)
      obtain ⟨v51, e51⟩ : ∃ z, M 598 80 = z := ⟨_, rfl⟩
      have b51 : 0 ≤ v51 ∧ v51 ≤ 7 := by rw [← e51]; exact hI_M 598 80 (Nat.le_of_ble_eq_true rfl)
      refine jr_v rfl rfl (Or.inl rfl) rfl rfl (nlt rfl) rfl ⟨rfl, Nat.le_of_ble_eq_true rfl, Nat.le_of_ble_eq_true rfl⟩ rfl (jc.deep (r_want (RI.u (RI.u (RI.u hI_M (a := 659) (i := v36) (by rw [xri_row rfl rfl]; show (0 : Int) ≤ _ ∧ _ ≤ (1000 : Int); omega)) (a := 660) (i := v36) (by rw [xri_row rfl rfl]; show (-9223372036854775808 : Int) ≤ _ ∧ _ ≤ (9223372036854775807 : Int); omega)) (a := 598) (i := 90) (show (0 : Int) ≤ _ ∧ _ ≤ (2200 : Int) from by omega)) (RH.o (RH.o (RH.o hH_M (by decide) (by decide) (by decide)) (by decide) (by decide) (by decide)) (by decide) (by decide) (by decide)) (RF.o (RF.o (RF.o hS_M (by decide) (by decide)) (by decide) (by decide)) (by decide) (by decide))  (by omega) (by rw [((ju_i _ _ (zne (by decide))).trans ((ju_c _ _ (by decide)).trans ((ju_c _ _ (by decide)).trans e44))), ((ju_i _ _ (zne (by decide))).trans ((ju_c _ _ (by decide)).trans ((ju_c _ _ (by decide)).trans e45)))]; omega) (fun M43 hI_M43 hH_M43 hS_M43  w43_0 w43_1 w43_2 w43_3 w43_4 w43_5 w43_6 w43_7 => ?_)) (Nat.le_of_ble_eq_true rfl))
      have y46 : (ju (ju (ju M 659 v36 (20 + w)) 660 v36 0) 598 90 (v36 + 1)) 598 73 = v44 := ((ju_i _ _ (zne (by decide))).trans ((ju_c _ _ (by decide)).trans ((ju_c _ _ (by decide)).trans e44)))
      have y48 : (ju (ju (ju M 659 v36 (20 + w)) 660 v36 0) 598 90 (v36 + 1)) 598 74 = v47 := ((ju_i _ _ (zne (by decide))).trans ((ju_c _ _ (by decide)).trans ((ju_c _ _ (by decide)).trans e47)))
      have y50 : (ju (ju (ju M 659 v36 (20 + w)) 660 v36 0) 598 90 (v36 + 1)) 598 79 = v49 := ((ju_i _ _ (zne (by decide))).trans ((ju_c _ _ (by decide)).trans ((ju_c _ _ (by decide)).trans e49)))
      have y52 : (ju (ju (ju M 659 v36 (20 + w)) 660 v36 0) 598 90 (v36 + 1)) 598 80 = v51 := ((ju_i _ _ (zne (by decide))).trans ((ju_c _ _ (by decide)).trans ((ju_c _ _ (by decide)).trans e51)))
      have tb43 : TK (ju (ju (ju M 659 v36 (20 + w)) 660 v36 0) 598 90 (v36 + 1)) = TK M := ((TK.o (Or.inr ⟨by decide, by decide⟩)).trans ((TK.o (Or.inl (by decide))).trans ((TK.o (Or.inl (by decide))).trans rfl)))
      have e53 : M43 598 72 = v45 := ((w43_7 72 (zne rfl) (zne rfl) (zne rfl) (zne rfl) (zne rfl) (zne rfl) (zne rfl) (zne rfl) (zne rfl)).trans ((ju_i _ _ (zne (by decide))).trans ((ju_c _ _ (by decide)).trans ((ju_c _ _ (by decide)).trans e45))))
      obtain ⟨v55, e55⟩ : ∃ z, M43 598 73 = z := ⟨_, rfl⟩
      have b55 : 0 ≤ v55 ∧ v55 ≤ 1600 := by rw [← e55]; exact hI_M43 598 73 (Nat.le_of_ble_eq_true rfl)
      obtain ⟨v57, e57⟩ : ∃ z, M43 598 74 = z := ⟨_, rfl⟩
      have b57 : 0 ≤ v57 ∧ v57 ≤ 4 := by rw [← e57]; exact hI_M43 598 74 (Nat.le_of_ble_eq_true rfl)
      obtain ⟨v59, e59⟩ : ∃ z, M43 598 79 = z := ⟨_, rfl⟩
      have b59 : 0 ≤ v59 ∧ v59 ≤ 255 := by rw [← e59]; exact hI_M43 598 79 (Nat.le_of_ble_eq_true rfl)
      obtain ⟨v61, e61⟩ : ∃ z, M43 598 80 = z := ⟨_, rfl⟩
      have b61 : 0 ≤ v61 ∧ v61 ≤ 7 := by rw [← e61]; exact hI_M43 598 80 (Nat.le_of_ble_eq_true rfl)
      obtain ⟨v63, e63⟩ : ∃ z, M 598 89 = z := ⟨_, rfl⟩
      have b63 : 0 ≤ v63 ∧ v63 ≤ 301 := by rw [← e63]; exact hI_M 598 89 (Nat.le_of_ble_eq_true rfl)
      have e64 : M43 598 89 = v63 := ((w43_7 89 (zne rfl) (zne rfl) (zne rfl) (zne rfl) (zne rfl) (zne rfl) (zne rfl) (zne rfl) (zne rfl)).trans ((ju_i _ _ (zne (by decide))).trans ((ju_c _ _ (by decide)).trans ((ju_c _ _ (by decide)).trans e63))))
      have e66 : M43 598 90 = v36 + 1 := ((w43_7 90 (zne rfl) (zne rfl) (zne rfl) (zne rfl) (zne rfl) (zne rfl) (zne rfl) (zne rfl) (zne rfl)).trans (ju_same _ _ _ _))
      obtain ⟨v68, e68⟩ : ∃ z, M 598 96 = z := ⟨_, rfl⟩
      have b68 : 0 ≤ v68 ∧ v68 ≤ 300 := by rw [← e68]; exact hI_M 598 96 (Nat.le_of_ble_eq_true rfl)
      have e69 : M43 598 96 = v68 := ((w43_7 96 (zne rfl) (zne rfl) (zne rfl) (zne rfl) (zne rfl) (zne rfl) (zne rfl) (zne rfl) (zne rfl)).trans ((ju_i _ _ (zne (by decide))).trans ((ju_c _ _ (by decide)).trans ((ju_c _ _ (by decide)).trans e68))))
      have e71 : M43 598 100 = v37 := ((w43_7 100 (zne rfl) (zne rfl) (zne rfl) (zne rfl) (zne rfl) (zne rfl) (zne rfl) (zne rfl) (zne rfl)).trans ((ju_i _ _ (zne (by decide))).trans ((ju_c _ _ (by decide)).trans ((ju_c _ _ (by decide)).trans e37))))
      have e73 : M43 598 107 = v39 := ((w43_7 107 (zne rfl) (zne rfl) (zne rfl) (zne rfl) (zne rfl) (zne rfl) (zne rfl) (zne rfl) (zne rfl)).trans ((ju_i _ _ (zne (by decide))).trans ((ju_c _ _ (by decide)).trans ((ju_c _ _ (by decide)).trans e39))))
      obtain ⟨v76, e76⟩ : ∃ z, M 598 74 = z := ⟨_, rfl⟩
      have b76 : 0 ≤ v76 ∧ v76 ≤ 4 := by rw [← e76]; exact hI_M 598 74 (Nat.le_of_ble_eq_true rfl)
      obtain ⟨v78, e78⟩ : ∃ z, M 598 89 = z := ⟨_, rfl⟩
      have b78 : 0 ≤ v78 ∧ v78 ≤ 301 := by rw [← e78]; exact hI_M 598 89 (Nat.le_of_ble_eq_true rfl)
      exact jr.vreturn rfl rfl (q _ hI_M43 hH_M43 hS_M43  (by by_cases hf : v61 = 0; (first | (have y75 : (ju (ju (ju M 659 v36 (20 + w)) 660 v36 0) 598 90 (v36 + 1)) 598 73 = v44 := ((ju_i _ _ (zne (by decide))).trans ((ju_c _ _ (by decide)).trans ((ju_c _ _ (by decide)).trans e44))); have y77 : (ju (ju (ju M 659 v36 (20 + w)) 660 v36 0) 598 90 (v36 + 1)) 598 74 = v76 := ((ju_i _ _ (zne (by decide))).trans ((ju_c _ _ (by decide)).trans ((ju_c _ _ (by decide)).trans e76))); have y79 : (ju (ju (ju M 659 v36 (20 + w)) 660 v36 0) 598 90 (v36 + 1)) 598 89 = v78 := ((ju_i _ _ (zne (by decide))).trans ((ju_c _ _ (by decide)).trans ((ju_c _ _ (by decide)).trans e78))); have y80 : (ju (ju (ju M 659 v36 (20 + w)) 660 v36 0) 598 90 (v36 + 1)) 598 100 = v37 := ((ju_i _ _ (zne (by decide))).trans ((ju_c _ _ (by decide)).trans ((ju_c _ _ (by decide)).trans e37))); have x43_89 := w43_7 89 (zne rfl) (zne rfl) (zne rfl) (zne rfl) (zne rfl) (zne rfl) (zne rfl) (zne rfl) (zne rfl); have x43_100 := w43_7 100 (zne rfl) (zne rfl) (zne rfl) (zne rfl) (zne rfl) (zne rfl) (zne rfl) (zne rfl) (zne rfl); have hX := XS.fr2 hX w43_6 (w43_7 88 (zne rfl) (zne rfl) (zne rfl) (zne rfl) (zne rfl) (zne rfl) (zne rfl) (zne rfl) (zne rfl)) (w43_7 90 (zne rfl) (zne rfl) (zne rfl) (zne rfl) (zne rfl) (zne rfl) (zne rfl) (zne rfl) (zne rfl)) (w43_7 101 (zne rfl) (zne rfl) (zne rfl) (zne rfl) (zne rfl) (zne rfl) (zne rfl) (zne rfl) (zne rfl)) (w43_7 107 (zne rfl) (zne rfl) (zne rfl) (zne rfl) (zne rfl) (zne rfl) (zne rfl) (zne rfl) (zne rfl)) (k' := 0) (d' := 0) (z' := 0) (by omega) (by omega) (by omega) (by omega); have hA := AK.cp hA (CP.f (CP.rfl _) (fun i => w43_6 659 i (nne rfl)) (w43_7 90 (zne rfl) (zne rfl) (zne rfl) (zne rfl) (zne rfl) (zne rfl) (zne rfl) (zne rfl) (zne rfl))) (fun i => w43_6 663 i (nne rfl)) (w43_7 96 (zne rfl) (zne rfl) (zne rfl) (zne rfl) (zne rfl) (zne rfl) (zne rfl) (zne rfl) (zne rfl)); have hB := LB.fr hB (fun i => w43_6 659 i (nne rfl)) (w43_7 90 (zne rfl) (zne rfl) (zne rfl) (zne rfl) (zne rfl) (zne rfl) (zne rfl) (zne rfl) (zne rfl)); exact Or.inr ⟨⟨by omega, XS.adj hX (k' := 0) (z' := 0) (by omega) (by omega) (by omega), by omega, by omega, by omega, by omega, hB, hA, by omega⟩, by omega⟩) | (exfalso; omega)); (exact Or.inl ⟨by omega, by omega⟩)) (by omega) (by omega) (by omega) (by omega) (fun a i f598 f659 f660 f661 f662 f663 f664 f665 f666 f667 f668 f669 => ((w43_6 a i f598).trans ((ju_c _ _ f598).trans ((ju_c _ _ f660).trans ((ju_c _ _ f659).trans (hF_M a i f598 f659 f660 f661 f662 f663 f664 f665 f666 f667 f668 f669)))))) (fun i g73 g74 g75 g76 g77 g78 g79 g80 g81 g89 g90 g96 g100 g102 g107 => ((w43_7 i g73 g74 g75 g76 g77 g78 g79 g80 g81).trans ((ju_i _ _ g90).trans ((ju_c _ _ (by decide)).trans ((ju_c _ _ (by decide)).trans (hG_M i g73 g74 g75 g76 g77 g78 g79 g80 g81 g89 g90 g96 g100 g102 g107)))))))
theorem r_deed_L188 {A : Nat → Option (Nat × (Nat → Int32))} {Q : Option Value → jm → Prop} {M0 : jm} (q : ∀ (M' : jm), RI M' → RH M' → RF M' → (BT M' ∨ (DS M' 0 ∧ TK M' < TK M0)) → TK M' ≤ TK M0 → M' 598 73 ≤ M' 598 72 → (M' 598 80 ≠ 0 ∨ TK M' < TK M0) → M0 598 107 ≤ M' 598 107 → (∀ (a : Nat) (i : Int), a ≠ 598 → a ≠ 659 → a ≠ 660 → a ≠ 661 → a ≠ 662 → a ≠ 663 → a ≠ 664 → a ≠ 665 → a ≠ 666 → a ≠ 667 → a ≠ 668 → a ≠ 669 → M' a i = M0 a i) → (∀ (i : Int), i ≠ 73 → i ≠ 74 → i ≠ 75 → i ≠ 76 → i ≠ 77 → i ≠ 78 → i ≠ 79 → i ≠ 80 → i ≠ 81 → i ≠ 89 → i ≠ 90 → i ≠ 96 → i ≠ 100 → i ≠ 102 → i ≠ 107 → M' 598 i = M0 598 i) → Q none M') : ∀ (nM : Nat) (M : jm) (k : Int) (w : Int), RI M → RH M → RF M → (∀ (a : Nat) (i : Int), a ≠ 598 → a ≠ 659 → a ≠ 660 → a ≠ 661 → a ≠ 662 → a ≠ 663 → a ≠ 664 → a ≠ 665 → a ≠ 666 → a ≠ 667 → a ≠ 668 → a ≠ 669 → M a i = M0 a i) → (∀ (i : Int), i ≠ 73 → i ≠ 74 → i ≠ 75 → i ≠ 76 → i ≠ 77 → i ≠ 78 → i ≠ 79 → i ≠ 80 → i ≠ 81 → i ≠ 89 → i ≠ 90 → i ≠ 96 → i ≠ 100 → i ≠ 102 → i ≠ 107 → M 598 i = M0 598 i) → 0 ≤ k ∧ k ≤ 5 → 10 ≤ w ∧ w ≤ 18 → (BS M ∨ (SS M k (0 + 2 + 2) ∧ AK M ∧ M 598 96 ≤ M 598 89)) → M 598 73 ≤ M 598 72 → TK M ≤ TK M0 → (M 598 80 ≠ 0 ∨ TK M < TK M0) → M 598 107 = M0 598 107 → 1 ≤ M 598 88 → k ≤ ndo (20 + w) → M 598 107 ≤ 12 → 5 - k ≤ nM → jr A 7 xm_367 188 [(3, .int (Int32.ofInt (k))), (1, .int (Int32.ofInt (w))), (0, .ref (598))] [] M Q := by
  intro nM
  induction nM using Nat.strongRecOn with
  | ind nM ih =>
    intro M k w hI_M hH_M hS_M hF_M hG_M h_k h_w hy0 hy1 hy2 hy3 hy4 hy5 hy6 hy7 hm
    rcases hy0 with zb | zg
    · obtain ⟨za, zc⟩ := zb
      refine jr.iload_n rfl rfl ?_
      refine jr.iload_n rfl rfl ?_
      refine jr_s rfl rfl (Or.inl rfl) ⟨Nat.le_of_ble_eq_true rfl, Nat.le_of_ble_eq_true rfl⟩ rfl rfl (jc.deep (r_exps hI_M hH_M hS_M (Kp.rfl _) (by omega)  (fun r1 z1 w1_0 => ?_)) (Nat.le_of_ble_eq_true rfl))
      refine jr.icmp_ge rfl rfl (by first | (refine rgb (by assumption) ?_; exact rfl) | omega) (by first | (refine rgb (by assumption) ?_; exact rfl) | omega) (fun h193 => ?_) (fun h193 => ?_)
      · obtain ⟨v2, e2⟩ : ∃ z, M 598 80 = z := ⟨_, rfl⟩
        have b2 : 0 ≤ v2 ∧ v2 ≤ 7 := by rw [← e2]; exact hI_M 598 80 (Nat.le_of_ble_eq_true rfl)
        obtain ⟨v4, e4⟩ : ∃ z, M 598 90 = z := ⟨_, rfl⟩
        have b4 : 0 ≤ v4 ∧ v4 ≤ 2200 := by rw [← e4]; exact hI_M 598 90 (Nat.le_of_ble_eq_true rfl)
        obtain ⟨v6, e6⟩ : ∃ z, M 598 73 = z := ⟨_, rfl⟩
        have b6 : 0 ≤ v6 ∧ v6 ≤ 1600 := by rw [← e6]; exact hI_M 598 73 (Nat.le_of_ble_eq_true rfl)
        obtain ⟨v7, e7⟩ : ∃ z, M 598 72 = z := ⟨_, rfl⟩
        have b7 : 0 ≤ v7 ∧ v7 ≤ 1600 := by rw [← e7]; exact hI_M 598 72 (Nat.le_of_ble_eq_true rfl)
        obtain ⟨v8, e8⟩ : ∃ z, M 598 107 = z := ⟨_, rfl⟩
        have b8 : 0 ≤ v8 ∧ v8 ≤ 16 := by rw [← e8]; exact hI_M 598 107 (Nat.le_of_ble_eq_true rfl)
        obtain ⟨v9, e9⟩ : ∃ z, M 598 88 = z := ⟨_, rfl⟩
        have b9 : 0 ≤ v9 ∧ v9 ≤ 16 := by rw [← e9]; exact hI_M 598 88 (Nat.le_of_ble_eq_true rfl)
        refine jr.pick (ls := [_, _]) [1, 2] rfl rfl ?_
        exact r_deed_L230 q M w hI_M hH_M hS_M  (fun a i f598 f659 f660 f661 f662 f663 f664 f665 f666 f667 f668 f669 => (hF_M a i f598 f659 f660 f661 f662 f663 f664 f665 f666 f667 f668 f669)) (fun i g73 g74 g75 g76 g77 g78 g79 g80 g81 g89 g90 g96 g100 g102 g107 => (hG_M i g73 g74 g75 g76 g77 g78 g79 g80 g81 g89 g90 g96 g100 g102 g107)) (by omega) (Or.inl ⟨by omega, by omega⟩) (by rw [e6, e7] <;> omega) (by omega) (by omega) (by rw [e8] <;> omega) (by rw [e9] <;> omega) (by rw [e8] <;> omega)
      · refine jr.aload_n rfl rfl ?_
        obtain ⟨v10, e10⟩ : ∃ z, M 598 80 = z := ⟨_, rfl⟩
        have b10 : 0 ≤ v10 ∧ v10 ≤ 7 := by rw [← e10]; exact hI_M 598 80 (Nat.le_of_ble_eq_true rfl)
        refine jr_v rfl rfl (Or.inl rfl) rfl rfl (nlt rfl) rfl ⟨rfl, Nat.le_of_ble_eq_true rfl, Nat.le_of_ble_eq_true rfl⟩ rfl (jc.deep (c_good hI_M  (fun t197_0 => ?_) (fun f197_0 => ?_)) (Nat.le_of_ble_eq_true rfl))
        · exfalso
          omega
        · refine jr.if_eq rfl rfl (by first | exact rgl rfl | omega) (fun _ => ?_) (fun h => absurd (by decide) h)
          obtain ⟨v12, e12⟩ : ∃ z, M 598 90 = z := ⟨_, rfl⟩
          have b12 : 0 ≤ v12 ∧ v12 ≤ 2200 := by rw [← e12]; exact hI_M 598 90 (Nat.le_of_ble_eq_true rfl)
          obtain ⟨v14, e14⟩ : ∃ z, M 598 73 = z := ⟨_, rfl⟩
          have b14 : 0 ≤ v14 ∧ v14 ≤ 1600 := by rw [← e14]; exact hI_M 598 73 (Nat.le_of_ble_eq_true rfl)
          obtain ⟨v15, e15⟩ : ∃ z, M 598 72 = z := ⟨_, rfl⟩
          have b15 : 0 ≤ v15 ∧ v15 ≤ 1600 := by rw [← e15]; exact hI_M 598 72 (Nat.le_of_ble_eq_true rfl)
          obtain ⟨v16, e16⟩ : ∃ z, M 598 107 = z := ⟨_, rfl⟩
          have b16 : 0 ≤ v16 ∧ v16 ≤ 16 := by rw [← e16]; exact hI_M 598 107 (Nat.le_of_ble_eq_true rfl)
          obtain ⟨v17, e17⟩ : ∃ z, M 598 88 = z := ⟨_, rfl⟩
          have b17 : 0 ≤ v17 ∧ v17 ≤ 16 := by rw [← e17]; exact hI_M 598 88 (Nat.le_of_ble_eq_true rfl)
          refine jr.pick (ls := [_, _]) [1, 2] rfl rfl ?_
          exact r_deed_L230 q M w hI_M hH_M hS_M  (fun a i f598 f659 f660 f661 f662 f663 f664 f665 f666 f667 f668 f669 => (hF_M a i f598 f659 f660 f661 f662 f663 f664 f665 f666 f667 f668 f669)) (fun i g73 g74 g75 g76 g77 g78 g79 g80 g81 g89 g90 g96 g100 g102 g107 => (hG_M i g73 g74 g75 g76 g77 g78 g79 g80 g81 g89 g90 g96 g100 g102 g107)) (by omega) (Or.inl ⟨by omega, by omega⟩) (by rw [e14, e15] <;> omega) (by omega) (by omega) (by rw [e16] <;> omega) (by rw [e17] <;> omega) (by rw [e16] <;> omega)
    · obtain ⟨⟨sa, hX, sc, sd, se, sf⟩, hA, sk⟩ := zg
      have dpx := XS.dep hX
      have sl := XS.sgle hX
      have bM_107 : (0 : Int) ≤ M 598 107 ∧ M 598 107 ≤ 16 := hI_M 598 107 (Nat.le_of_ble_eq_true rfl)
      have bM_73 : (0 : Int) ≤ M 598 73 ∧ M 598 73 ≤ 1600 := hI_M 598 73 (Nat.le_of_ble_eq_true rfl)
      have bM_88 : (0 : Int) ≤ M 598 88 ∧ M 598 88 ≤ 16 := hI_M 598 88 (Nat.le_of_ble_eq_true rfl)
      have bM_100 : (0 : Int) ≤ M 598 100 ∧ M 598 100 ≤ 13 := hI_M 598 100 (Nat.le_of_ble_eq_true rfl)
      refine jr.iload_n rfl rfl ?_
      refine jr.iload_n rfl rfl ?_
      refine jr_s rfl rfl (Or.inl rfl) ⟨Nat.le_of_ble_eq_true rfl, Nat.le_of_ble_eq_true rfl⟩ rfl rfl (jc.deep (r_exps hI_M hH_M hS_M (Kp.rfl _) (by omega)  (fun r18 z18 w18_0 => ?_)) (Nat.le_of_ble_eq_true rfl))
      refine jr.icmp_ge rfl rfl (by first | (refine rgb (by assumption) ?_; exact rfl) | omega) (by first | (refine rgb (by assumption) ?_; exact rfl) | omega) (fun h193 => ?_) (fun h193 => ?_)
      · obtain ⟨v19, e19⟩ : ∃ z, M 598 72 = z := ⟨_, rfl⟩
        have b19 : 0 ≤ v19 ∧ v19 ≤ 1600 := by rw [← e19]; exact hI_M 598 72 (Nat.le_of_ble_eq_true rfl)
        obtain ⟨v21, e21⟩ : ∃ z, M 598 73 = z := ⟨_, rfl⟩
        have b21 : 0 ≤ v21 ∧ v21 ≤ 1600 := by rw [← e21]; exact hI_M 598 73 (Nat.le_of_ble_eq_true rfl)
        obtain ⟨v23, e23⟩ : ∃ z, M 598 74 = z := ⟨_, rfl⟩
        have b23 : 0 ≤ v23 ∧ v23 ≤ 4 := by rw [← e23]; exact hI_M 598 74 (Nat.le_of_ble_eq_true rfl)
        obtain ⟨v25, e25⟩ : ∃ z, M 598 79 = z := ⟨_, rfl⟩
        have b25 : 0 ≤ v25 ∧ v25 ≤ 255 := by rw [← e25]; exact hI_M 598 79 (Nat.le_of_ble_eq_true rfl)
        obtain ⟨v27, e27⟩ : ∃ z, M 598 80 = z := ⟨_, rfl⟩
        have b27 : 0 ≤ v27 ∧ v27 ≤ 7 := by rw [← e27]; exact hI_M 598 80 (Nat.le_of_ble_eq_true rfl)
        obtain ⟨v29, e29⟩ : ∃ z, M 598 89 = z := ⟨_, rfl⟩
        have b29 : 0 ≤ v29 ∧ v29 ≤ 301 := by rw [← e29]; exact hI_M 598 89 (Nat.le_of_ble_eq_true rfl)
        obtain ⟨v31, e31⟩ : ∃ z, M 598 90 = z := ⟨_, rfl⟩
        have b31 : 0 ≤ v31 ∧ v31 ≤ 2200 := by rw [← e31]; exact hI_M 598 90 (Nat.le_of_ble_eq_true rfl)
        obtain ⟨v33, e33⟩ : ∃ z, M 598 96 = z := ⟨_, rfl⟩
        have b33 : 0 ≤ v33 ∧ v33 ≤ 300 := by rw [← e33]; exact hI_M 598 96 (Nat.le_of_ble_eq_true rfl)
        obtain ⟨v35, e35⟩ : ∃ z, M 598 100 = z := ⟨_, rfl⟩
        have b35 : 0 ≤ v35 ∧ v35 ≤ 13 := by rw [← e35]; exact hI_M 598 100 (Nat.le_of_ble_eq_true rfl)
        obtain ⟨v37, e37⟩ : ∃ z, M 598 107 = z := ⟨_, rfl⟩
        have b37 : 0 ≤ v37 ∧ v37 ≤ 16 := by rw [← e37]; exact hI_M 598 107 (Nat.le_of_ble_eq_true rfl)
        obtain ⟨v39, e39⟩ : ∃ z, M 598 88 = z := ⟨_, rfl⟩
        have b39 : 0 ≤ v39 ∧ v39 ≤ 16 := by rw [← e39]; exact hI_M 598 88 (Nat.le_of_ble_eq_true rfl)
        refine jr.pick (ls := [_, _]) [1, 2] rfl rfl ?_
        exact r_deed_L230 q M w hI_M hH_M hS_M  (fun a i f598 f659 f660 f661 f662 f663 f664 f665 f666 f667 f668 f669 => (hF_M a i f598 f659 f660 f661 f662 f663 f664 f665 f666 f667 f668 f669)) (fun i g73 g74 g75 g76 g77 g78 g79 g80 g81 g89 g90 g96 g100 g102 g107 => (hG_M i g73 g74 g75 g76 g77 g78 g79 g80 g81 g89 g90 g96 g100 g102 g107)) (by omega) (Or.inr ⟨⟨by omega, by rw [show ndo (20 + w) = k by omega]; exact hX, by omega, by omega, by omega, by omega⟩, by omega, Or.inl ⟨by omega, by omega, hA⟩⟩) (by rw [e21, e19] <;> omega) (by omega) (by omega) (by rw [e37] <;> omega) (by rw [e39] <;> omega) (by rw [e37] <;> omega)
      · refine jr.aload_n rfl rfl ?_
        obtain ⟨v40, e40⟩ : ∃ z, M 598 80 = z := ⟨_, rfl⟩
        have b40 : 0 ≤ v40 ∧ v40 ≤ 7 := by rw [← e40]; exact hI_M 598 80 (Nat.le_of_ble_eq_true rfl)
        refine jr_v rfl rfl (Or.inl rfl) rfl rfl (nlt rfl) rfl ⟨rfl, Nat.le_of_ble_eq_true rfl, Nat.le_of_ble_eq_true rfl⟩ rfl (jc.deep (c_good hI_M  (fun t197_0 => ?_) (fun f197_0 => ?_)) (Nat.le_of_ble_eq_true rfl))
        · refine jr.if_eq rfl rfl (by first | exact rgl rfl | omega) (fun h => absurd h (by decide)) (fun _ => ?_)
          refine jr.iload_n rfl rfl ?_
          refine jr.if_le rfl rfl (by first | (refine rgb (by assumption) ?_; exact rfl) | omega) (fun h204 => ?_) (fun h204 => ?_)
          · refine jr.aload_n rfl rfl ?_
            refine jr_v rfl rfl (Or.inl rfl) rfl rfl (nlt rfl) rfl ⟨rfl, Nat.le_of_ble_eq_true rfl, Nat.le_of_ble_eq_true rfl⟩ rfl (jc.deep (c_good hI_M  (fun t214_0 => ?_) (fun f214_0 => ?_)) (Nat.le_of_ble_eq_true rfl))
            · refine jr.if_eq rfl rfl (by first | exact rgl rfl | omega) (fun h => absurd h (by decide)) (fun _ => ?_)
              refine jr.aload_n rfl rfl ?_
              refine jr_v rfl rfl (Or.inl rfl) rfl rfl (nlt rfl) rfl ⟨rfl, Nat.le_of_ble_eq_true rfl, Nat.le_of_ble_eq_true rfl⟩ rfl (jc.deep (c_exp hI_M hH_M hS_M ⟨by omega, hX, by omega, by omega, by omega, by omega⟩ (by omega) (fun M41 hI_M41 hH_M41 hS_M41 bs41 wt41 wl41 wc41 wn41 wF41 wG41 => ?_) (fun M41 hI_M41 hH_M41 hS_M41 ss41 wt41 wc41 wn41 wF41 wG41 => ?_)) (Nat.le_of_ble_eq_true rfl))
              · obtain ⟨ba41, bb41⟩ := bs41
                refine jr.iinc (ls' := [_, _, _]) rfl rfl (nlt rfl) rfl ?_
                refine jr.goto rfl rfl ?_
                obtain ⟨v42, e42⟩ : ∃ z, M41 598 80 = z := ⟨_, rfl⟩
                have b42 : 0 ≤ v42 ∧ v42 ≤ 7 := by rw [← e42]; exact hI_M41 598 80 (Nat.le_of_ble_eq_true rfl)
                obtain ⟨v44, e44⟩ : ∃ z, M41 598 90 = z := ⟨_, rfl⟩
                have b44 : 0 ≤ v44 ∧ v44 ≤ 2200 := by rw [← e44]; exact hI_M41 598 90 (Nat.le_of_ble_eq_true rfl)
                obtain ⟨v46, e46⟩ : ∃ z, M41 598 73 = z := ⟨_, rfl⟩
                have b46 : 0 ≤ v46 ∧ v46 ≤ 1600 := by rw [← e46]; exact hI_M41 598 73 (Nat.le_of_ble_eq_true rfl)
                obtain ⟨v47, e47⟩ : ∃ z, M 598 72 = z := ⟨_, rfl⟩
                have b47 : 0 ≤ v47 ∧ v47 ≤ 1600 := by rw [← e47]; exact hI_M 598 72 (Nat.le_of_ble_eq_true rfl)
                have e48 : M41 598 72 = v47 := ((wG41 72 (by decide) (by decide) (by decide) (by decide) (by decide) (by decide) (by decide) (by decide) (by decide) (by decide) (by decide) (by decide) (by decide)).trans e47)
                obtain ⟨v49, e49⟩ : ∃ z, M 598 107 = z := ⟨_, rfl⟩
                have b49 : 0 ≤ v49 ∧ v49 ≤ 16 := by rw [← e49]; exact hI_M 598 107 (Nat.le_of_ble_eq_true rfl)
                have e50 : M41 598 107 = v49 := ((wG41 107 (by decide) (by decide) (by decide) (by decide) (by decide) (by decide) (by decide) (by decide) (by decide) (by decide) (by decide) (by decide) (by decide)).trans e49)
                obtain ⟨v51, e51⟩ : ∃ z, M 598 88 = z := ⟨_, rfl⟩
                have b51 : 0 ≤ v51 ∧ v51 ≤ 16 := by rw [← e51]; exact hI_M 598 88 (Nat.le_of_ble_eq_true rfl)
                have e52 : M41 598 88 = v51 := ((wG41 88 (by decide) (by decide) (by decide) (by decide) (by decide) (by decide) (by decide) (by decide) (by decide) (by decide) (by decide) (by decide) (by decide)).trans e51)
                refine jr.pick (ls := [_, _, _]) [0, 1, 2] rfl rfl ?_
                exact ih (nM - 1) (by omega) M41 (k + 1) w hI_M41 hH_M41 hS_M41  (fun a i f598 f659 f660 f661 f662 f663 f664 f665 f666 f667 f668 f669 => ((wF41 a i f598 f659 f660 f664 f665 f666 f667).trans (hF_M a i f598 f659 f660 f661 f662 f663 f664 f665 f666 f667 f668 f669))) (fun i g73 g74 g75 g76 g77 g78 g79 g80 g81 g89 g90 g96 g100 g102 g107 => ((wG41 i g73 g74 g75 g76 g77 g78 g79 g80 g81 g89 g90 g100 g102).trans (hG_M i g73 g74 g75 g76 g77 g78 g79 g80 g81 g89 g90 g96 g100 g102 g107))) (by omega) (by omega) (Or.inl ⟨by omega, by omega⟩) (by rw [e46, e48] <;> omega) (by omega) (by omega) (by rw [e50] <;> omega) (by rw [e52] <;> omega) (by omega) (by rw [e50] <;> omega) (by omega)
              · obtain ⟨sa41, hX, sc41, sd41, se41, sf41⟩ := ss41
                have hA := AK.cp hA wc41 (fun i => wF41 663 i (by decide) (by decide) (by decide) (by decide) (by decide) (by decide) (by decide)) (wG41 96 (by decide) (by decide) (by decide) (by decide) (by decide) (by decide) (by decide) (by decide) (by decide) (by decide) (by decide) (by decide) (by decide))
                have dpx41 := XS.dep hX
                have sl41 := XS.sgle hX
                have bM41_107 : (0 : Int) ≤ M41 598 107 ∧ M41 598 107 ≤ 16 := hI_M41 598 107 (Nat.le_of_ble_eq_true rfl)
                have bM41_73 : (0 : Int) ≤ M41 598 73 ∧ M41 598 73 ≤ 1600 := hI_M41 598 73 (Nat.le_of_ble_eq_true rfl)
                have bM41_88 : (0 : Int) ≤ M41 598 88 ∧ M41 598 88 ≤ 16 := hI_M41 598 88 (Nat.le_of_ble_eq_true rfl)
                have bM41_100 : (0 : Int) ≤ M41 598 100 ∧ M41 598 100 ≤ 13 := hI_M41 598 100 (Nat.le_of_ble_eq_true rfl)
                refine jr.iinc (ls' := [_, _, _]) rfl rfl (nlt rfl) rfl ?_
                refine jr.goto rfl rfl ?_
                obtain ⟨v53, e53⟩ : ∃ z, M 598 72 = z := ⟨_, rfl⟩
                have b53 : 0 ≤ v53 ∧ v53 ≤ 1600 := by rw [← e53]; exact hI_M 598 72 (Nat.le_of_ble_eq_true rfl)
                have e54 : M41 598 72 = v53 := ((wG41 72 (by decide) (by decide) (by decide) (by decide) (by decide) (by decide) (by decide) (by decide) (by decide) (by decide) (by decide) (by decide) (by decide)).trans e53)
                obtain ⟨v56, e56⟩ : ∃ z, M41 598 73 = z := ⟨_, rfl⟩
                have b56 : 0 ≤ v56 ∧ v56 ≤ 1600 := by rw [← e56]; exact hI_M41 598 73 (Nat.le_of_ble_eq_true rfl)
                obtain ⟨v58, e58⟩ : ∃ z, M41 598 74 = z := ⟨_, rfl⟩
                have b58 : 0 ≤ v58 ∧ v58 ≤ 4 := by rw [← e58]; exact hI_M41 598 74 (Nat.le_of_ble_eq_true rfl)
                obtain ⟨v60, e60⟩ : ∃ z, M41 598 79 = z := ⟨_, rfl⟩
                have b60 : 0 ≤ v60 ∧ v60 ≤ 255 := by rw [← e60]; exact hI_M41 598 79 (Nat.le_of_ble_eq_true rfl)
                obtain ⟨v62, e62⟩ : ∃ z, M41 598 80 = z := ⟨_, rfl⟩
                have b62 : 0 ≤ v62 ∧ v62 ≤ 7 := by rw [← e62]; exact hI_M41 598 80 (Nat.le_of_ble_eq_true rfl)
                obtain ⟨v64, e64⟩ : ∃ z, M41 598 89 = z := ⟨_, rfl⟩
                have b64 : 0 ≤ v64 ∧ v64 ≤ 301 := by rw [← e64]; exact hI_M41 598 89 (Nat.le_of_ble_eq_true rfl)
                obtain ⟨v66, e66⟩ : ∃ z, M41 598 90 = z := ⟨_, rfl⟩
                have b66 : 0 ≤ v66 ∧ v66 ≤ 2200 := by rw [← e66]; exact hI_M41 598 90 (Nat.le_of_ble_eq_true rfl)
                obtain ⟨v68, e68⟩ : ∃ z, M 598 96 = z := ⟨_, rfl⟩
                have b68 : 0 ≤ v68 ∧ v68 ≤ 300 := by rw [← e68]; exact hI_M 598 96 (Nat.le_of_ble_eq_true rfl)
                have e69 : M41 598 96 = v68 := ((wG41 96 (by decide) (by decide) (by decide) (by decide) (by decide) (by decide) (by decide) (by decide) (by decide) (by decide) (by decide) (by decide) (by decide)).trans e68)
                obtain ⟨v71, e71⟩ : ∃ z, M41 598 100 = z := ⟨_, rfl⟩
                have b71 : 0 ≤ v71 ∧ v71 ≤ 13 := by rw [← e71]; exact hI_M41 598 100 (Nat.le_of_ble_eq_true rfl)
                obtain ⟨v73, e73⟩ : ∃ z, M 598 107 = z := ⟨_, rfl⟩
                have b73 : 0 ≤ v73 ∧ v73 ≤ 16 := by rw [← e73]; exact hI_M 598 107 (Nat.le_of_ble_eq_true rfl)
                have e74 : M41 598 107 = v73 := ((wG41 107 (by decide) (by decide) (by decide) (by decide) (by decide) (by decide) (by decide) (by decide) (by decide) (by decide) (by decide) (by decide) (by decide)).trans e73)
                obtain ⟨v76, e76⟩ : ∃ z, M 598 88 = z := ⟨_, rfl⟩
                have b76 : 0 ≤ v76 ∧ v76 ≤ 16 := by rw [← e76]; exact hI_M 598 88 (Nat.le_of_ble_eq_true rfl)
                have e77 : M41 598 88 = v76 := ((wG41 88 (by decide) (by decide) (by decide) (by decide) (by decide) (by decide) (by decide) (by decide) (by decide) (by decide) (by decide) (by decide) (by decide)).trans e76)
                refine jr.pick (ls := [_, _, _]) [0, 1, 2] rfl rfl ?_
                exact ih (nM - 1) (by omega) M41 (k + 1) w hI_M41 hH_M41 hS_M41  (fun a i f598 f659 f660 f661 f662 f663 f664 f665 f666 f667 f668 f669 => ((wF41 a i f598 f659 f660 f664 f665 f666 f667).trans (hF_M a i f598 f659 f660 f661 f662 f663 f664 f665 f666 f667 f668 f669))) (fun i g73 g74 g75 g76 g77 g78 g79 g80 g81 g89 g90 g96 g100 g102 g107 => ((wG41 i g73 g74 g75 g76 g77 g78 g79 g80 g81 g89 g90 g100 g102).trans (hG_M i g73 g74 g75 g76 g77 g78 g79 g80 g81 g89 g90 g96 g100 g102 g107))) (by omega) (by omega) (Or.inr ⟨⟨by omega, hX, by omega, by omega, by omega, by omega⟩, hA, by omega⟩) (by rw [e56, e54] <;> omega) (by omega) (by omega) (by rw [e74] <;> omega) (by rw [e77] <;> omega) (by omega) (by rw [e74] <;> omega) (by omega)
            · exfalso
              omega
          · refine jr.aload_n rfl rfl ?_
            refine jr.bipush rfl (jbp _ (nlt rfl)) ?_
            obtain ⟨v79, e79⟩ : ∃ z, M 598 73 = z := ⟨_, rfl⟩
            have b79 : 0 ≤ v79 ∧ v79 ≤ 1600 := by rw [← e79]; exact hI_M 598 73 (Nat.le_of_ble_eq_true rfl)
            obtain ⟨v80, e80⟩ : ∃ z, M 598 72 = z := ⟨_, rfl⟩
            have b80 : 0 ≤ v80 ∧ v80 ≤ 1600 := by rw [← e80]; exact hI_M 598 72 (Nat.le_of_ble_eq_true rfl)
            obtain ⟨v82, e82⟩ : ∃ z, M 598 74 = z := ⟨_, rfl⟩
            have b82 : 0 ≤ v82 ∧ v82 ≤ 4 := by rw [← e82]; exact hI_M 598 74 (Nat.le_of_ble_eq_true rfl)
            obtain ⟨v84, e84⟩ : ∃ z, M 598 89 = z := ⟨_, rfl⟩
            have b84 : 0 ≤ v84 ∧ v84 ≤ 301 := by rw [← e84]; exact hI_M 598 89 (Nat.le_of_ble_eq_true rfl)
            obtain ⟨v86, e86⟩ : ∃ z, M 598 100 = z := ⟨_, rfl⟩
            have b86 : 0 ≤ v86 ∧ v86 ≤ 13 := by rw [← e86]; exact hI_M 598 100 (Nat.le_of_ble_eq_true rfl)
            refine jr_v rfl rfl (Or.inl rfl) rfl rfl (nlt rfl) rfl ⟨rfl, Nat.le_of_ble_eq_true rfl, Nat.le_of_ble_eq_true rfl⟩ rfl (jc.deep (r_want hI_M hH_M hS_M  (by omega) (by rw [e79, e80]; omega) (fun M78 hI_M78 hH_M78 hS_M78  w78_0 w78_1 w78_2 w78_3 w78_4 w78_5 w78_6 w78_7 => ?_)) (Nat.le_of_ble_eq_true rfl))
            have x78_89 := w78_7 89 (zne rfl) (zne rfl) (zne rfl) (zne rfl) (zne rfl) (zne rfl) (zne rfl) (zne rfl) (zne rfl)
            have x78_100 := w78_7 100 (zne rfl) (zne rfl) (zne rfl) (zne rfl) (zne rfl) (zne rfl) (zne rfl) (zne rfl) (zne rfl)
            have hX := XS.fr2 hX w78_6 (w78_7 88 (zne rfl) (zne rfl) (zne rfl) (zne rfl) (zne rfl) (zne rfl) (zne rfl) (zne rfl) (zne rfl)) (w78_7 90 (zne rfl) (zne rfl) (zne rfl) (zne rfl) (zne rfl) (zne rfl) (zne rfl) (zne rfl) (zne rfl)) (w78_7 101 (zne rfl) (zne rfl) (zne rfl) (zne rfl) (zne rfl) (zne rfl) (zne rfl) (zne rfl) (zne rfl)) (w78_7 107 (zne rfl) (zne rfl) (zne rfl) (zne rfl) (zne rfl) (zne rfl) (zne rfl) (zne rfl) (zne rfl)) (k' := 0 + 2 + 2) (d' := 0) (z' := 0) (by omega) (by omega) (by omega) (by omega)
            have hA := AK.cp hA (CP.f (CP.rfl _) (fun i => w78_6 659 i (nne rfl)) (w78_7 90 (zne rfl) (zne rfl) (zne rfl) (zne rfl) (zne rfl) (zne rfl) (zne rfl) (zne rfl) (zne rfl))) (fun i => w78_6 663 i (nne rfl)) (w78_7 96 (zne rfl) (zne rfl) (zne rfl) (zne rfl) (zne rfl) (zne rfl) (zne rfl) (zne rfl) (zne rfl))
            refine jr.aload_n rfl rfl ?_
            refine jr_v rfl rfl (Or.inl rfl) rfl rfl (nlt rfl) rfl ⟨rfl, Nat.le_of_ble_eq_true rfl, Nat.le_of_ble_eq_true rfl⟩ rfl (jc.deep (c_good hI_M78  (fun t214_0 => ?_) (fun f214_0 => ?_)) (Nat.le_of_ble_eq_true rfl))
            · have w78_3r := Classical.byContradiction (fun z => w78_3 z t214_0)
              have w78_4r := w78_4 t214_0
              clear w78_3 w78_4
              refine jr.if_eq rfl rfl (by first | exact rgl rfl | omega) (fun h => absurd h (by decide)) (fun _ => ?_)
              refine jr.aload_n rfl rfl ?_
              refine jr_v rfl rfl (Or.inl rfl) rfl rfl (nlt rfl) rfl ⟨rfl, Nat.le_of_ble_eq_true rfl, Nat.le_of_ble_eq_true rfl⟩ rfl (jc.deep (c_exp hI_M78 hH_M78 hS_M78 ⟨by omega, hX, by omega, by omega, by omega, by omega⟩ (by omega) (fun M88 hI_M88 hH_M88 hS_M88 bs88 wt88 wl88 wc88 wn88 wF88 wG88 => ?_) (fun M88 hI_M88 hH_M88 hS_M88 ss88 wt88 wc88 wn88 wF88 wG88 => ?_)) (Nat.le_of_ble_eq_true rfl))
              · obtain ⟨ba88, bb88⟩ := bs88
                refine jr.iinc (ls' := [_, _, _]) rfl rfl (nlt rfl) rfl ?_
                refine jr.goto rfl rfl ?_
                obtain ⟨v89, e89⟩ : ∃ z, M88 598 80 = z := ⟨_, rfl⟩
                have b89 : 0 ≤ v89 ∧ v89 ≤ 7 := by rw [← e89]; exact hI_M88 598 80 (Nat.le_of_ble_eq_true rfl)
                obtain ⟨v91, e91⟩ : ∃ z, M88 598 90 = z := ⟨_, rfl⟩
                have b91 : 0 ≤ v91 ∧ v91 ≤ 2200 := by rw [← e91]; exact hI_M88 598 90 (Nat.le_of_ble_eq_true rfl)
                obtain ⟨v93, e93⟩ : ∃ z, M88 598 73 = z := ⟨_, rfl⟩
                have b93 : 0 ≤ v93 ∧ v93 ≤ 1600 := by rw [← e93]; exact hI_M88 598 73 (Nat.le_of_ble_eq_true rfl)
                have e94 : M78 598 72 = v80 := ((w78_7 72 (zne rfl) (zne rfl) (zne rfl) (zne rfl) (zne rfl) (zne rfl) (zne rfl) (zne rfl) (zne rfl)).trans e80)
                have e95 : M88 598 72 = v80 := ((wG88 72 (by decide) (by decide) (by decide) (by decide) (by decide) (by decide) (by decide) (by decide) (by decide) (by decide) (by decide) (by decide) (by decide)).trans e94)
                obtain ⟨v96, e96⟩ : ∃ z, M 598 107 = z := ⟨_, rfl⟩
                have b96 : 0 ≤ v96 ∧ v96 ≤ 16 := by rw [← e96]; exact hI_M 598 107 (Nat.le_of_ble_eq_true rfl)
                have e97 : M78 598 107 = v96 := ((w78_7 107 (zne rfl) (zne rfl) (zne rfl) (zne rfl) (zne rfl) (zne rfl) (zne rfl) (zne rfl) (zne rfl)).trans e96)
                have e98 : M88 598 107 = v96 := ((wG88 107 (by decide) (by decide) (by decide) (by decide) (by decide) (by decide) (by decide) (by decide) (by decide) (by decide) (by decide) (by decide) (by decide)).trans e97)
                obtain ⟨v99, e99⟩ : ∃ z, M 598 88 = z := ⟨_, rfl⟩
                have b99 : 0 ≤ v99 ∧ v99 ≤ 16 := by rw [← e99]; exact hI_M 598 88 (Nat.le_of_ble_eq_true rfl)
                have e100 : M78 598 88 = v99 := ((w78_7 88 (zne rfl) (zne rfl) (zne rfl) (zne rfl) (zne rfl) (zne rfl) (zne rfl) (zne rfl) (zne rfl)).trans e99)
                have e101 : M88 598 88 = v99 := ((wG88 88 (by decide) (by decide) (by decide) (by decide) (by decide) (by decide) (by decide) (by decide) (by decide) (by decide) (by decide) (by decide) (by decide)).trans e100)
                refine jr.pick (ls := [_, _, _]) [0, 1, 2] rfl rfl ?_
                exact ih (nM - 1) (by omega) M88 (k + 1) w hI_M88 hH_M88 hS_M88  (fun a i f598 f659 f660 f661 f662 f663 f664 f665 f666 f667 f668 f669 => ((wF88 a i f598 f659 f660 f664 f665 f666 f667).trans ((w78_6 a i f598).trans (hF_M a i f598 f659 f660 f661 f662 f663 f664 f665 f666 f667 f668 f669)))) (fun i g73 g74 g75 g76 g77 g78 g79 g80 g81 g89 g90 g96 g100 g102 g107 => ((wG88 i g73 g74 g75 g76 g77 g78 g79 g80 g81 g89 g90 g100 g102).trans ((w78_7 i g73 g74 g75 g76 g77 g78 g79 g80 g81).trans (hG_M i g73 g74 g75 g76 g77 g78 g79 g80 g81 g89 g90 g96 g100 g102 g107)))) (by omega) (by omega) (Or.inl ⟨by omega, by omega⟩) (by rw [e93, e95] <;> omega) (by omega) (by omega) (by rw [e98] <;> omega) (by rw [e101] <;> omega) (by omega) (by rw [e98] <;> omega) (by omega)
              · obtain ⟨sa88, hX, sc88, sd88, se88, sf88⟩ := ss88
                have hA := AK.cp hA wc88 (fun i => wF88 663 i (by decide) (by decide) (by decide) (by decide) (by decide) (by decide) (by decide)) (wG88 96 (by decide) (by decide) (by decide) (by decide) (by decide) (by decide) (by decide) (by decide) (by decide) (by decide) (by decide) (by decide) (by decide))
                have dpx88 := XS.dep hX
                have sl88 := XS.sgle hX
                have bM88_107 : (0 : Int) ≤ M88 598 107 ∧ M88 598 107 ≤ 16 := hI_M88 598 107 (Nat.le_of_ble_eq_true rfl)
                have bM88_73 : (0 : Int) ≤ M88 598 73 ∧ M88 598 73 ≤ 1600 := hI_M88 598 73 (Nat.le_of_ble_eq_true rfl)
                have bM88_88 : (0 : Int) ≤ M88 598 88 ∧ M88 598 88 ≤ 16 := hI_M88 598 88 (Nat.le_of_ble_eq_true rfl)
                have bM88_100 : (0 : Int) ≤ M88 598 100 ∧ M88 598 100 ≤ 13 := hI_M88 598 100 (Nat.le_of_ble_eq_true rfl)
                refine jr.iinc (ls' := [_, _, _]) rfl rfl (nlt rfl) rfl ?_
                refine jr.goto rfl rfl ?_
                have e102 : M78 598 72 = v80 := ((w78_7 72 (zne rfl) (zne rfl) (zne rfl) (zne rfl) (zne rfl) (zne rfl) (zne rfl) (zne rfl) (zne rfl)).trans e80)
                have e103 : M88 598 72 = v80 := ((wG88 72 (by decide) (by decide) (by decide) (by decide) (by decide) (by decide) (by decide) (by decide) (by decide) (by decide) (by decide) (by decide) (by decide)).trans e102)
                obtain ⟨v105, e105⟩ : ∃ z, M88 598 73 = z := ⟨_, rfl⟩
                have b105 : 0 ≤ v105 ∧ v105 ≤ 1600 := by rw [← e105]; exact hI_M88 598 73 (Nat.le_of_ble_eq_true rfl)
                obtain ⟨v107, e107⟩ : ∃ z, M88 598 74 = z := ⟨_, rfl⟩
                have b107 : 0 ≤ v107 ∧ v107 ≤ 4 := by rw [← e107]; exact hI_M88 598 74 (Nat.le_of_ble_eq_true rfl)
                obtain ⟨v109, e109⟩ : ∃ z, M88 598 79 = z := ⟨_, rfl⟩
                have b109 : 0 ≤ v109 ∧ v109 ≤ 255 := by rw [← e109]; exact hI_M88 598 79 (Nat.le_of_ble_eq_true rfl)
                obtain ⟨v111, e111⟩ : ∃ z, M88 598 80 = z := ⟨_, rfl⟩
                have b111 : 0 ≤ v111 ∧ v111 ≤ 7 := by rw [← e111]; exact hI_M88 598 80 (Nat.le_of_ble_eq_true rfl)
                obtain ⟨v113, e113⟩ : ∃ z, M88 598 89 = z := ⟨_, rfl⟩
                have b113 : 0 ≤ v113 ∧ v113 ≤ 301 := by rw [← e113]; exact hI_M88 598 89 (Nat.le_of_ble_eq_true rfl)
                obtain ⟨v115, e115⟩ : ∃ z, M88 598 90 = z := ⟨_, rfl⟩
                have b115 : 0 ≤ v115 ∧ v115 ≤ 2200 := by rw [← e115]; exact hI_M88 598 90 (Nat.le_of_ble_eq_true rfl)
                obtain ⟨v117, e117⟩ : ∃ z, M 598 96 = z := ⟨_, rfl⟩
                have b117 : 0 ≤ v117 ∧ v117 ≤ 300 := by rw [← e117]; exact hI_M 598 96 (Nat.le_of_ble_eq_true rfl)
                have e118 : M78 598 96 = v117 := ((w78_7 96 (zne rfl) (zne rfl) (zne rfl) (zne rfl) (zne rfl) (zne rfl) (zne rfl) (zne rfl) (zne rfl)).trans e117)
                have e119 : M88 598 96 = v117 := ((wG88 96 (by decide) (by decide) (by decide) (by decide) (by decide) (by decide) (by decide) (by decide) (by decide) (by decide) (by decide) (by decide) (by decide)).trans e118)
                obtain ⟨v121, e121⟩ : ∃ z, M88 598 100 = z := ⟨_, rfl⟩
                have b121 : 0 ≤ v121 ∧ v121 ≤ 13 := by rw [← e121]; exact hI_M88 598 100 (Nat.le_of_ble_eq_true rfl)
                obtain ⟨v123, e123⟩ : ∃ z, M 598 107 = z := ⟨_, rfl⟩
                have b123 : 0 ≤ v123 ∧ v123 ≤ 16 := by rw [← e123]; exact hI_M 598 107 (Nat.le_of_ble_eq_true rfl)
                have e124 : M78 598 107 = v123 := ((w78_7 107 (zne rfl) (zne rfl) (zne rfl) (zne rfl) (zne rfl) (zne rfl) (zne rfl) (zne rfl) (zne rfl)).trans e123)
                have e125 : M88 598 107 = v123 := ((wG88 107 (by decide) (by decide) (by decide) (by decide) (by decide) (by decide) (by decide) (by decide) (by decide) (by decide) (by decide) (by decide) (by decide)).trans e124)
                obtain ⟨v127, e127⟩ : ∃ z, M 598 88 = z := ⟨_, rfl⟩
                have b127 : 0 ≤ v127 ∧ v127 ≤ 16 := by rw [← e127]; exact hI_M 598 88 (Nat.le_of_ble_eq_true rfl)
                have e128 : M78 598 88 = v127 := ((w78_7 88 (zne rfl) (zne rfl) (zne rfl) (zne rfl) (zne rfl) (zne rfl) (zne rfl) (zne rfl) (zne rfl)).trans e127)
                have e129 : M88 598 88 = v127 := ((wG88 88 (by decide) (by decide) (by decide) (by decide) (by decide) (by decide) (by decide) (by decide) (by decide) (by decide) (by decide) (by decide) (by decide)).trans e128)
                refine jr.pick (ls := [_, _, _]) [0, 1, 2] rfl rfl ?_
                exact ih (nM - 1) (by omega) M88 (k + 1) w hI_M88 hH_M88 hS_M88  (fun a i f598 f659 f660 f661 f662 f663 f664 f665 f666 f667 f668 f669 => ((wF88 a i f598 f659 f660 f664 f665 f666 f667).trans ((w78_6 a i f598).trans (hF_M a i f598 f659 f660 f661 f662 f663 f664 f665 f666 f667 f668 f669)))) (fun i g73 g74 g75 g76 g77 g78 g79 g80 g81 g89 g90 g96 g100 g102 g107 => ((wG88 i g73 g74 g75 g76 g77 g78 g79 g80 g81 g89 g90 g100 g102).trans ((w78_7 i g73 g74 g75 g76 g77 g78 g79 g80 g81).trans (hG_M i g73 g74 g75 g76 g77 g78 g79 g80 g81 g89 g90 g96 g100 g102 g107)))) (by omega) (by omega) (Or.inr ⟨⟨by omega, hX, by omega, by omega, by omega, by omega⟩, hA, by omega⟩) (by rw [e105, e103] <;> omega) (by omega) (by omega) (by rw [e125] <;> omega) (by rw [e129] <;> omega) (by omega) (by rw [e125] <;> omega) (by omega)
            · refine jr.if_eq rfl rfl (by first | exact rgl rfl | omega) (fun _ => ?_) (fun h => absurd (by decide) h)
              refine jr.iinc (ls' := [_, _, _]) rfl rfl (nlt rfl) rfl ?_
              refine jr.goto rfl rfl ?_
              obtain ⟨v130, e130⟩ : ∃ z, M78 598 80 = z := ⟨_, rfl⟩
              have b130 : 0 ≤ v130 ∧ v130 ≤ 7 := by rw [← e130]; exact hI_M78 598 80 (Nat.le_of_ble_eq_true rfl)
              obtain ⟨v132, e132⟩ : ∃ z, M 598 90 = z := ⟨_, rfl⟩
              have b132 : 0 ≤ v132 ∧ v132 ≤ 2200 := by rw [← e132]; exact hI_M 598 90 (Nat.le_of_ble_eq_true rfl)
              have e133 : M78 598 90 = v132 := ((w78_7 90 (zne rfl) (zne rfl) (zne rfl) (zne rfl) (zne rfl) (zne rfl) (zne rfl) (zne rfl) (zne rfl)).trans e132)
              obtain ⟨v135, e135⟩ : ∃ z, M78 598 73 = z := ⟨_, rfl⟩
              have b135 : 0 ≤ v135 ∧ v135 ≤ 1600 := by rw [← e135]; exact hI_M78 598 73 (Nat.le_of_ble_eq_true rfl)
              have e136 : M78 598 72 = v80 := ((w78_7 72 (zne rfl) (zne rfl) (zne rfl) (zne rfl) (zne rfl) (zne rfl) (zne rfl) (zne rfl) (zne rfl)).trans e80)
              obtain ⟨v137, e137⟩ : ∃ z, M 598 107 = z := ⟨_, rfl⟩
              have b137 : 0 ≤ v137 ∧ v137 ≤ 16 := by rw [← e137]; exact hI_M 598 107 (Nat.le_of_ble_eq_true rfl)
              have e138 : M78 598 107 = v137 := ((w78_7 107 (zne rfl) (zne rfl) (zne rfl) (zne rfl) (zne rfl) (zne rfl) (zne rfl) (zne rfl) (zne rfl)).trans e137)
              obtain ⟨v139, e139⟩ : ∃ z, M 598 88 = z := ⟨_, rfl⟩
              have b139 : 0 ≤ v139 ∧ v139 ≤ 16 := by rw [← e139]; exact hI_M 598 88 (Nat.le_of_ble_eq_true rfl)
              have e140 : M78 598 88 = v139 := ((w78_7 88 (zne rfl) (zne rfl) (zne rfl) (zne rfl) (zne rfl) (zne rfl) (zne rfl) (zne rfl) (zne rfl)).trans e139)
              refine jr.pick (ls := [_, _, _]) [0, 1, 2] rfl rfl ?_
              exact ih (nM - 1) (by omega) M78 (k + 1) w hI_M78 hH_M78 hS_M78  (fun a i f598 f659 f660 f661 f662 f663 f664 f665 f666 f667 f668 f669 => ((w78_6 a i f598).trans (hF_M a i f598 f659 f660 f661 f662 f663 f664 f665 f666 f667 f668 f669))) (fun i g73 g74 g75 g76 g77 g78 g79 g80 g81 g89 g90 g96 g100 g102 g107 => ((w78_7 i g73 g74 g75 g76 g77 g78 g79 g80 g81).trans (hG_M i g73 g74 g75 g76 g77 g78 g79 g80 g81 g89 g90 g96 g100 g102 g107))) (by omega) (by omega) (Or.inl ⟨by omega, by omega⟩) (by rw [e135, e136] <;> omega) (by omega) (by omega) (by rw [e138] <;> omega) (by rw [e140] <;> omega) (by omega) (by rw [e138] <;> omega) (by omega)
        · exfalso
          omega
theorem r_deed_L112 {A : Nat → Option (Nat × (Nat → Int32))} {Q : Option Value → jm → Prop} {M0 : jm} (q : ∀ (M' : jm), RI M' → RH M' → RF M' → (BT M' ∨ (DS M' 0 ∧ TK M' < TK M0)) → TK M' ≤ TK M0 → M' 598 73 ≤ M' 598 72 → (M' 598 80 ≠ 0 ∨ TK M' < TK M0) → M0 598 107 ≤ M' 598 107 → (∀ (a : Nat) (i : Int), a ≠ 598 → a ≠ 659 → a ≠ 660 → a ≠ 661 → a ≠ 662 → a ≠ 663 → a ≠ 664 → a ≠ 665 → a ≠ 666 → a ≠ 667 → a ≠ 668 → a ≠ 669 → M' a i = M0 a i) → (∀ (i : Int), i ≠ 73 → i ≠ 74 → i ≠ 75 → i ≠ 76 → i ≠ 77 → i ≠ 78 → i ≠ 79 → i ≠ 80 → i ≠ 81 → i ≠ 89 → i ≠ 90 → i ≠ 96 → i ≠ 100 → i ≠ 102 → i ≠ 107 → M' 598 i = M0 598 i) → Q none M') : ∀ (M : jm) (w : Int), RI M → RH M → RF M → (∀ (a : Nat) (i : Int), a ≠ 598 → a ≠ 659 → a ≠ 660 → a ≠ 661 → a ≠ 662 → a ≠ 663 → a ≠ 664 → a ≠ 665 → a ≠ 666 → a ≠ 667 → a ≠ 668 → a ≠ 669 → M a i = M0 a i) → (∀ (i : Int), i ≠ 73 → i ≠ 74 → i ≠ 75 → i ≠ 76 → i ≠ 77 → i ≠ 78 → i ≠ 79 → i ≠ 80 → i ≠ 81 → i ≠ 89 → i ≠ 90 → i ≠ 96 → i ≠ 100 → i ≠ 102 → i ≠ 107 → M 598 i = M0 598 i) → 8 ≤ w ∧ w ≤ 9 → XS M 0 (0 + 2 + 2) 0 0 (-1) → AK M → M 598 80 = 0 → M 598 96 < M 598 89 ∧ M 598 89 ≤ 300 → M 598 100 ≤ 12 → M 598 73 ≤ M 598 72 → 1 ≤ M 598 107 ∧ M 598 107 = M0 598 107 → 1 ≤ M 598 88 → (M 598 74 = 3 → M 598 79 ≠ 10 ∧ M 598 79 ≠ 11) → TK M < TK M0 → 0 ≤ M 598 96 → 1 ≤ M 598 90 ∧ M 659 (M 598 90 - 1) = 0 → jr A 7 xm_367 112 [(1, .int (Int32.ofInt (w))), (0, .ref (598))] [] M Q := by
    intro M w hI_M hH_M hS_M hF_M hG_M h_w hy0 hy1 hy2 hy3 hy4 hy5 hy6 hy7 hy8 hy9 hy10 hy11
    have hX := hy0
    have hA := hy1
    have dpx := XS.dep hy0
    have sl := XS.sgle hy0
    have bM_107 : (0 : Int) ≤ M 598 107 ∧ M 598 107 ≤ 16 := hI_M 598 107 (Nat.le_of_ble_eq_true rfl)
    have bM_73 : (0 : Int) ≤ M 598 73 ∧ M 598 73 ≤ 1600 := hI_M 598 73 (Nat.le_of_ble_eq_true rfl)
    have bM_88 : (0 : Int) ≤ M 598 88 ∧ M 598 88 ≤ 16 := hI_M 598 88 (Nat.le_of_ble_eq_true rfl)
    have bM_100 : (0 : Int) ≤ M 598 100 ∧ M 598 100 ≤ 13 := hI_M 598 100 (Nat.le_of_ble_eq_true rfl)
    obtain ⟨hs1, hs2⟩ := hy11
    obtain ⟨c0, hc0⟩ : ∃ z, M 598 90 = z := ⟨_, rfl⟩
    rw [hc0] at hs1 hs2
    have bc0 : (0 : Int) ≤ c0 ∧ c0 ≤ 2200 := by rw [← hc0]; exact hI_M 598 90 (Nat.le_of_ble_eq_true rfl)
    refine jr.aload_n rfl rfl ?_
    refine jr_v rfl rfl (Or.inl rfl) rfl rfl (nlt rfl) rfl ⟨rfl, Nat.le_of_ble_eq_true rfl, Nat.le_of_ble_eq_true rfl⟩ rfl (jc.deep (c_isName hI_M  (fun t113_0 => ?_) (fun f113_0 => ?_)) (Nat.le_of_ble_eq_true rfl))
    · refine jr.if_ne rfl rfl (by first | exact rgl rfl | omega) (fun _ => ?_) (fun h => absurd (by decide) h)
      refine jr.aload_n rfl rfl ?_
      refine jr.getf (i := 97) (v := .ref 661) rfl rfl (nlt rfl) rfl (nlt rfl) rfl rfl rfl rfl ?_
      refine jr.aload_n rfl rfl ?_
      obtain ⟨v1, e1⟩ : ∃ z, M 598 96 = z := ⟨_, rfl⟩
      have b1 : 0 ≤ v1 ∧ v1 ≤ 300 := by rw [← e1]; exact hI_M 598 96 (Nat.le_of_ble_eq_true rfl)
      refine jr.getf (i := 96) (x := v1) (v := .int (Int32.ofInt (v1))) rfl rfl (nlt rfl) rfl (nlt rfl) rfl rfl e1 rfl ?_
      refine jr.aload_n rfl rfl ?_
      obtain ⟨v2, e2⟩ : ∃ z, M 598 77 = z := ⟨_, rfl⟩
      have b2 : (-9223372036854775808) ≤ v2 ∧ v2 ≤ 9223372036854775807 := by rw [← e2]; exact hI_M 598 77 (Nat.le_of_ble_eq_true rfl)
      refine jr.getf (i := 77) (x := v2) (v := .long (Int64.ofInt (v2))) rfl rfl (nlt rfl) rfl (nlt rfl) rfl rfl e2 rfl ?_
      refine jr.last (i := v1) (x := v2) rfl (nlt rfl) rfl (Nat.le_of_ble_eq_true rfl) (by omega) (by omega) ?_
      refine jr.aload_n rfl rfl ?_
      refine jr.getf (i := 98) (v := .ref 662) rfl rfl (nlt rfl) rfl (nlt rfl) rfl rfl rfl rfl ?_
      refine jr.aload_n rfl rfl ?_
      refine jr.getf (i := 96) (x := v1) (v := .int (Int32.ofInt (v1))) rfl rfl (nlt rfl) rfl (nlt rfl) rfl rfl ((ju_c _ _ (by decide)).trans e1) rfl ?_
      refine jr.aload_n rfl rfl ?_
      obtain ⟨v3, e3⟩ : ∃ z, M 598 75 = z := ⟨_, rfl⟩
      have b3 : 0 ≤ v3 ∧ v3 ≤ 1600 := by rw [← e3]; exact hI_M 598 75 (Nat.le_of_ble_eq_true rfl)
      refine jr.getf (i := 75) (x := v3) (v := .int (Int32.ofInt (v3))) rfl rfl (nlt rfl) rfl (nlt rfl) rfl rfl ((ju_c _ _ (by decide)).trans e3) rfl ?_
      refine jr.iast (i := v1) (x := v3) rfl (nlt rfl) rfl (Nat.le_of_ble_eq_true rfl) (by omega) (by omega) ?_
      refine jr.aload_n rfl rfl ?_
      refine jr.getf (i := 99) (v := .ref 663) rfl rfl (nlt rfl) rfl (nlt rfl) rfl rfl rfl rfl ?_
      refine jr.aload_n rfl rfl ?_
      refine jr.getf (i := 96) (x := v1) (v := .int (Int32.ofInt (v1))) rfl rfl (nlt rfl) rfl (nlt rfl) rfl rfl ((ju_c _ _ (by decide)).trans ((ju_c _ _ (by decide)).trans e1)) rfl ?_
      refine jr.aload_n rfl rfl ?_
      refine jr.getf (i := 90) (x := c0) (v := .int (Int32.ofInt (c0))) rfl rfl (nlt rfl) rfl (nlt rfl) rfl rfl ((ju_c _ _ (by decide)).trans ((ju_c _ _ (by decide)).trans hc0)) rfl ?_
      refine jr.iast (i := v1) (x := c0) rfl (nlt rfl) rfl (Nat.le_of_ble_eq_true rfl) (by omega) (by omega) ?_
      refine jr.aload_n rfl rfl ?_
      refine jr.dup rfl rfl ?_
      refine jr.getf (i := 96) (x := v1) (v := .int (Int32.ofInt (v1))) rfl rfl (nlt rfl) rfl (nlt rfl) rfl rfl ((ju_c _ _ (by decide)).trans ((ju_c _ _ (by decide)).trans ((ju_c _ _ (by decide)).trans e1))) rfl ?_
      refine jr.iconst rfl ?_
      refine jr.iadd rfl ?_
      refine jr.putf (i := 96) (x := (v1 + 1)) rfl rfl (nlt rfl) rfl (nlt rfl) rfl rfl rfl rfl rfl ?_
      refine jr.aload_n rfl rfl ?_
      obtain ⟨v5, e5⟩ : ∃ z, M 598 73 = z := ⟨_, rfl⟩
      have b5 : 0 ≤ v5 ∧ v5 ≤ 1600 := by rw [← e5]; exact hI_M 598 73 (Nat.le_of_ble_eq_true rfl)
      obtain ⟨v6, e6⟩ : ∃ z, M 598 72 = z := ⟨_, rfl⟩
      have b6 : 0 ≤ v6 ∧ v6 ≤ 1600 := by rw [← e6]; exact hI_M 598 72 (Nat.le_of_ble_eq_true rfl)
      obtain ⟨v8, e8⟩ : ∃ z, M 598 74 = z := ⟨_, rfl⟩
      have b8 : 0 ≤ v8 ∧ v8 ≤ 4 := by rw [← e8]; exact hI_M 598 74 (Nat.le_of_ble_eq_true rfl)
      obtain ⟨v10, e10⟩ : ∃ z, M 598 89 = z := ⟨_, rfl⟩
      have b10 : 0 ≤ v10 ∧ v10 ≤ 301 := by rw [← e10]; exact hI_M 598 89 (Nat.le_of_ble_eq_true rfl)
      obtain ⟨v12, e12⟩ : ∃ z, M 598 100 = z := ⟨_, rfl⟩
      have b12 : 0 ≤ v12 ∧ v12 ≤ 13 := by rw [← e12]; exact hI_M 598 100 (Nat.le_of_ble_eq_true rfl)
      refine jr_v rfl rfl (Or.inl rfl) rfl rfl (nlt rfl) rfl ⟨rfl, Nat.le_of_ble_eq_true rfl, Nat.le_of_ble_eq_true rfl⟩ rfl (jc.deep (r_next (RI.u (RI.u (RI.u (RI.u hI_M (a := 661) (i := v1) (by rw [xri_row rfl rfl]; show (-9223372036854775808 : Int) ≤ _ ∧ _ ≤ (9223372036854775807 : Int); omega)) (a := 662) (i := v1) (by rw [xri_row rfl rfl]; show (0 : Int) ≤ _ ∧ _ ≤ (1600 : Int); omega)) (a := 663) (i := v1) (by rw [xri_row rfl rfl]; show (0 : Int) ≤ _ ∧ _ ≤ (2200 : Int); omega)) (a := 598) (i := 96) (show (0 : Int) ≤ _ ∧ _ ≤ (300 : Int) from by omega)) (RH.o (RH.o (RH.o (RH.o hH_M (by decide) (by decide) (by decide)) (by decide) (by decide) (by decide)) (by decide) (by decide) (by decide)) (by decide) (by decide) (by decide)) (RF.o (RF.o (RF.o (RF.o hS_M (by decide) (by decide)) (by decide) (by decide)) (by decide) (by decide)) (by decide) (by decide))   (by rw [((ju_i _ _ (zne (by decide))).trans ((ju_c _ _ (by decide)).trans ((ju_c _ _ (by decide)).trans ((ju_c _ _ (by decide)).trans e5)))), ((ju_i _ _ (zne (by decide))).trans ((ju_c _ _ (by decide)).trans ((ju_c _ _ (by decide)).trans ((ju_c _ _ (by decide)).trans e6))))]; omega) (fun M4 hI_M4 hH_M4 hS_M4  w4_0 w4_1 w4_2 w4_3 w4_4 w4_5 w4_6 => ?_)) (Nat.le_of_ble_eq_true rfl))
      have y14 : (ju (ju (ju (ju M 661 v1 v2) 662 v1 v3) 663 v1 c0) 598 96 (v1 + 1)) 598 73 = v5 := ((ju_i _ _ (zne (by decide))).trans ((ju_c _ _ (by decide)).trans ((ju_c _ _ (by decide)).trans ((ju_c _ _ (by decide)).trans e5))))
      have y15 : (ju (ju (ju (ju M 661 v1 v2) 662 v1 v3) 663 v1 c0) 598 96 (v1 + 1)) 598 74 = v8 := ((ju_i _ _ (zne (by decide))).trans ((ju_c _ _ (by decide)).trans ((ju_c _ _ (by decide)).trans ((ju_c _ _ (by decide)).trans e8))))
      have tb4 : TK (ju (ju (ju (ju M 661 v1 v2) 662 v1 v3) 663 v1 c0) 598 96 (v1 + 1)) = TK M := ((TK.o (Or.inr ⟨by decide, by decide⟩)).trans ((TK.o (Or.inl (by decide))).trans ((TK.o (Or.inl (by decide))).trans ((TK.o (Or.inl (by decide))).trans rfl))))
      have hA2 := AK.ask (p := v2) (q := v3) hA e1 hc0
      have hX := XS.f96 (v := (v1 + 1)) (XS.irr (a := 663) (i := v1) (v := c0) (XS.irr (a := 662) (i := v1) (v := v3) (XS.irr (a := 661) (i := v1) (v := v2) hX (by decide)) (by decide)) (by decide))
      have y7 : (ju (ju (ju (ju M 661 v1 v2) 662 v1 v3) 663 v1 c0) 598 96 (v1 + 1)) 598 73 = v5 := ((ju_i _ _ (zne (by decide))).trans ((ju_c _ _ (by decide)).trans ((ju_c _ _ (by decide)).trans ((ju_c _ _ (by decide)).trans e5))))
      have y9 : (ju (ju (ju (ju M 661 v1 v2) 662 v1 v3) 663 v1 c0) 598 96 (v1 + 1)) 598 74 = v8 := ((ju_i _ _ (zne (by decide))).trans ((ju_c _ _ (by decide)).trans ((ju_c _ _ (by decide)).trans ((ju_c _ _ (by decide)).trans e8))))
      have y11 : (ju (ju (ju (ju M 661 v1 v2) 662 v1 v3) 663 v1 c0) 598 96 (v1 + 1)) 598 89 = v10 := ((ju_i _ _ (zne (by decide))).trans ((ju_c _ _ (by decide)).trans ((ju_c _ _ (by decide)).trans ((ju_c _ _ (by decide)).trans e10))))
      have y13 : (ju (ju (ju (ju M 661 v1 v2) 662 v1 v3) 663 v1 c0) 598 96 (v1 + 1)) 598 100 = v12 := ((ju_i _ _ (zne (by decide))).trans ((ju_c _ _ (by decide)).trans ((ju_c _ _ (by decide)).trans ((ju_c _ _ (by decide)).trans e12))))
      have x4_89 := w4_6 89 (zne rfl) (zne rfl) (zne rfl) (zne rfl) (zne rfl) (zne rfl) (zne rfl)
      have x4_100 := w4_6 100 (zne rfl) (zne rfl) (zne rfl) (zne rfl) (zne rfl) (zne rfl) (zne rfl)
      have hX := XS.fr2 hX w4_5 (w4_6 88 (zne rfl) (zne rfl) (zne rfl) (zne rfl) (zne rfl) (zne rfl) (zne rfl)) (w4_6 90 (zne rfl) (zne rfl) (zne rfl) (zne rfl) (zne rfl) (zne rfl) (zne rfl)) (w4_6 101 (zne rfl) (zne rfl) (zne rfl) (zne rfl) (zne rfl) (zne rfl) (zne rfl)) (w4_6 107 (zne rfl) (zne rfl) (zne rfl) (zne rfl) (zne rfl) (zne rfl) (zne rfl)) (k' := 0 + 2 + 2) (d' := 0) (z' := 0) (by omega) (by omega) (by omega) (by omega)
      have hA2 := AK2.fr hA2 w4_5 (w4_6 96 (zne rfl) (zne rfl) (zne rfl) (zne rfl) (zne rfl) (zne rfl) (zne rfl)) (w4_6 90 (zne rfl) (zne rfl) (zne rfl) (zne rfl) (zne rfl) (zne rfl) (zne rfl))
      refine jr.goto rfl rfl ?_
      have e16 : M4 598 72 = v6 := ((w4_6 72 (zne rfl) (zne rfl) (zne rfl) (zne rfl) (zne rfl) (zne rfl) (zne rfl)).trans ((ju_i _ _ (zne (by decide))).trans ((ju_c _ _ (by decide)).trans ((ju_c _ _ (by decide)).trans ((ju_c _ _ (by decide)).trans e6)))))
      obtain ⟨v18, e18⟩ : ∃ z, M4 598 73 = z := ⟨_, rfl⟩
      have b18 : 0 ≤ v18 ∧ v18 ≤ 1600 := by rw [← e18]; exact hI_M4 598 73 (Nat.le_of_ble_eq_true rfl)
      obtain ⟨v20, e20⟩ : ∃ z, M4 598 74 = z := ⟨_, rfl⟩
      have b20 : 0 ≤ v20 ∧ v20 ≤ 4 := by rw [← e20]; exact hI_M4 598 74 (Nat.le_of_ble_eq_true rfl)
      obtain ⟨v22, e22⟩ : ∃ z, M4 598 79 = z := ⟨_, rfl⟩
      have b22 : 0 ≤ v22 ∧ v22 ≤ 255 := by rw [← e22]; exact hI_M4 598 79 (Nat.le_of_ble_eq_true rfl)
      obtain ⟨v24, e24⟩ : ∃ z, M 598 80 = z := ⟨_, rfl⟩
      have b24 : 0 ≤ v24 ∧ v24 ≤ 7 := by rw [← e24]; exact hI_M 598 80 (Nat.le_of_ble_eq_true rfl)
      have e25 : M4 598 80 = v24 := ((w4_6 80 (zne rfl) (zne rfl) (zne rfl) (zne rfl) (zne rfl) (zne rfl) (zne rfl)).trans ((ju_i _ _ (zne (by decide))).trans ((ju_c _ _ (by decide)).trans ((ju_c _ _ (by decide)).trans ((ju_c _ _ (by decide)).trans e24)))))
      have e27 : M4 598 89 = v10 := ((w4_6 89 (zne rfl) (zne rfl) (zne rfl) (zne rfl) (zne rfl) (zne rfl) (zne rfl)).trans ((ju_i _ _ (zne (by decide))).trans ((ju_c _ _ (by decide)).trans ((ju_c _ _ (by decide)).trans ((ju_c _ _ (by decide)).trans e10)))))
      have e29 : M4 598 90 = c0 := ((w4_6 90 (zne rfl) (zne rfl) (zne rfl) (zne rfl) (zne rfl) (zne rfl) (zne rfl)).trans ((ju_i _ _ (zne (by decide))).trans ((ju_c _ _ (by decide)).trans ((ju_c _ _ (by decide)).trans ((ju_c _ _ (by decide)).trans hc0)))))
      have e31 : M4 598 96 = v1 + 1 := ((w4_6 96 (zne rfl) (zne rfl) (zne rfl) (zne rfl) (zne rfl) (zne rfl) (zne rfl)).trans (ju_same _ _ _ _))
      have e33 : M4 598 100 = v12 := ((w4_6 100 (zne rfl) (zne rfl) (zne rfl) (zne rfl) (zne rfl) (zne rfl) (zne rfl)).trans ((ju_i _ _ (zne (by decide))).trans ((ju_c _ _ (by decide)).trans ((ju_c _ _ (by decide)).trans ((ju_c _ _ (by decide)).trans e12)))))
      obtain ⟨v35, e35⟩ : ∃ z, M 598 107 = z := ⟨_, rfl⟩
      have b35 : 0 ≤ v35 ∧ v35 ≤ 16 := by rw [← e35]; exact hI_M 598 107 (Nat.le_of_ble_eq_true rfl)
      have e36 : M4 598 107 = v35 := ((w4_6 107 (zne rfl) (zne rfl) (zne rfl) (zne rfl) (zne rfl) (zne rfl) (zne rfl)).trans ((ju_i _ _ (zne (by decide))).trans ((ju_c _ _ (by decide)).trans ((ju_c _ _ (by decide)).trans ((ju_c _ _ (by decide)).trans e35)))))
      have e38 : M4 659 (c0 - 1) = 0 := ((w4_5 659 (c0 - 1) (nne rfl)).trans ((ju_c _ _ (by decide)).trans ((ju_c _ _ (by decide)).trans ((ju_c _ _ (by decide)).trans ((ju_c _ _ (by decide)).trans hs2)))))
      obtain ⟨v39, e39⟩ : ∃ z, M 598 88 = z := ⟨_, rfl⟩
      have b39 : 0 ≤ v39 ∧ v39 ≤ 16 := by rw [← e39]; exact hI_M 598 88 (Nat.le_of_ble_eq_true rfl)
      have e40 : M4 598 88 = v39 := ((w4_6 88 (zne rfl) (zne rfl) (zne rfl) (zne rfl) (zne rfl) (zne rfl) (zne rfl)).trans ((ju_i _ _ (zne (by decide))).trans ((ju_c _ _ (by decide)).trans ((ju_c _ _ (by decide)).trans ((ju_c _ _ (by decide)).trans e39)))))
      refine jr.pick (ls := [_, _]) [0, 1] rfl rfl ?_
      exact r_deed_L230 q M4 w hI_M4 hH_M4 hS_M4  (fun a i f598 f659 f660 f661 f662 f663 f664 f665 f666 f667 f668 f669 => ((w4_5 a i f598).trans ((ju_c _ _ f598).trans ((ju_c _ _ f663).trans ((ju_c _ _ f662).trans ((ju_c _ _ f661).trans (hF_M a i f598 f659 f660 f661 f662 f663 f664 f665 f666 f667 f668 f669))))))) (fun i g73 g74 g75 g76 g77 g78 g79 g80 g81 g89 g90 g96 g100 g102 g107 => ((w4_6 i g73 g74 g75 g76 g77 g78 g79).trans ((ju_i _ _ g96).trans ((ju_c _ _ (by decide)).trans ((ju_c _ _ (by decide)).trans ((ju_c _ _ (by decide)).trans (hG_M i g73 g74 g75 g76 g77 g78 g79 g80 g81 g89 g90 g96 g100 g102 g107))))))) (by omega) (Or.inr ⟨⟨by omega, by have dl := dl_deed (w := w) (by omega); rw [dl.2.2.2 (by omega)]; exact hX, by omega, by omega, by omega, by omega⟩, by omega, Or.inr ⟨by omega, hA2, by omega, by rw [e29]; exact e38⟩⟩) (by rw [e18, e16] <;> omega) (by omega) (by omega) (by rw [e36] <;> omega) (by rw [e40] <;> omega) (by rw [e36] <;> omega)
    · refine jr.if_ne rfl rfl (by first | exact rgl rfl | omega) (fun h => absurd h (by decide)) (fun _ => ?_)
      refine jr.aload_n rfl rfl ?_
      refine jr_v rfl rfl (Or.inl rfl) rfl rfl (nlt rfl) rfl ⟨rfl, Nat.le_of_ble_eq_true rfl, Nat.le_of_ble_eq_true rfl⟩ rfl (jc.deep (r_wrongToken hI_M hH_M hS_M    (fun M41 hI_M41 hH_M41 hS_M41  w41_0 w41_1 w41_2 => ?_)) (Nat.le_of_ble_eq_true rfl))
      have tk41 : TK M41 = TK M := TK.fr (w41_2 73 (zne rfl) (zne rfl)) (w41_2 74 (zne rfl) (zne rfl))
      obtain ⟨v42, e42⟩ : ∃ z, M 598 72 = z := ⟨_, rfl⟩
      have b42 : 0 ≤ v42 ∧ v42 ≤ 1600 := by rw [← e42]; exact hI_M 598 72 (Nat.le_of_ble_eq_true rfl)
      have e43 : M41 598 72 = v42 := ((w41_2 72 (zne rfl) (zne rfl)).trans e42)
      obtain ⟨v45, e45⟩ : ∃ z, M 598 73 = z := ⟨_, rfl⟩
      have b45 : 0 ≤ v45 ∧ v45 ≤ 1600 := by rw [← e45]; exact hI_M 598 73 (Nat.le_of_ble_eq_true rfl)
      have e46 : M41 598 73 = v45 := ((w41_2 73 (zne rfl) (zne rfl)).trans e45)
      obtain ⟨v48, e48⟩ : ∃ z, M 598 74 = z := ⟨_, rfl⟩
      have b48 : 0 ≤ v48 ∧ v48 ≤ 4 := by rw [← e48]; exact hI_M 598 74 (Nat.le_of_ble_eq_true rfl)
      have e49 : M41 598 74 = v48 := ((w41_2 74 (zne rfl) (zne rfl)).trans e48)
      obtain ⟨v51, e51⟩ : ∃ z, M 598 79 = z := ⟨_, rfl⟩
      have b51 : 0 ≤ v51 ∧ v51 ≤ 255 := by rw [← e51]; exact hI_M 598 79 (Nat.le_of_ble_eq_true rfl)
      have e52 : M41 598 79 = v51 := ((w41_2 79 (zne rfl) (zne rfl)).trans e51)
      obtain ⟨v54, e54⟩ : ∃ z, M41 598 80 = z := ⟨_, rfl⟩
      have b54 : 0 ≤ v54 ∧ v54 ≤ 7 := by rw [← e54]; exact hI_M41 598 80 (Nat.le_of_ble_eq_true rfl)
      obtain ⟨v56, e56⟩ : ∃ z, M 598 89 = z := ⟨_, rfl⟩
      have b56 : 0 ≤ v56 ∧ v56 ≤ 301 := by rw [← e56]; exact hI_M 598 89 (Nat.le_of_ble_eq_true rfl)
      have e57 : M41 598 89 = v56 := ((w41_2 89 (zne rfl) (zne rfl)).trans e56)
      have e59 : M41 598 90 = c0 := ((w41_2 90 (zne rfl) (zne rfl)).trans hc0)
      obtain ⟨v61, e61⟩ : ∃ z, M 598 96 = z := ⟨_, rfl⟩
      have b61 : 0 ≤ v61 ∧ v61 ≤ 300 := by rw [← e61]; exact hI_M 598 96 (Nat.le_of_ble_eq_true rfl)
      have e62 : M41 598 96 = v61 := ((w41_2 96 (zne rfl) (zne rfl)).trans e61)
      obtain ⟨v64, e64⟩ : ∃ z, M 598 100 = z := ⟨_, rfl⟩
      have b64 : 0 ≤ v64 ∧ v64 ≤ 13 := by rw [← e64]; exact hI_M 598 100 (Nat.le_of_ble_eq_true rfl)
      have e65 : M41 598 100 = v64 := ((w41_2 100 (zne rfl) (zne rfl)).trans e64)
      obtain ⟨v67, e67⟩ : ∃ z, M 598 107 = z := ⟨_, rfl⟩
      have b67 : 0 ≤ v67 ∧ v67 ≤ 16 := by rw [← e67]; exact hI_M 598 107 (Nat.le_of_ble_eq_true rfl)
      have e68 : M41 598 107 = v67 := ((w41_2 107 (zne rfl) (zne rfl)).trans e67)
      exact jr.vreturn rfl rfl (q _ hI_M41 hH_M41 hS_M41  (Or.inl ⟨by omega, by omega⟩) (by omega) (by omega) (by omega) (by omega) (fun a i f598 f659 f660 f661 f662 f663 f664 f665 f666 f667 f668 f669 => ((w41_1 a i f598).trans (hF_M a i f598 f659 f660 f661 f662 f663 f664 f665 f666 f667 f668 f669))) (fun i g73 g74 g75 g76 g77 g78 g79 g80 g81 g89 g90 g96 g100 g102 g107 => ((w41_2 i g80 g81).trans (hG_M i g73 g74 g75 g76 g77 g78 g79 g80 g81 g89 g90 g96 g100 g102 g107))))
theorem r_deed_L78 {A : Nat → Option (Nat × (Nat → Int32))} {Q : Option Value → jm → Prop} {M0 : jm} (q : ∀ (M' : jm), RI M' → RH M' → RF M' → (BT M' ∨ (DS M' 0 ∧ TK M' < TK M0)) → TK M' ≤ TK M0 → M' 598 73 ≤ M' 598 72 → (M' 598 80 ≠ 0 ∨ TK M' < TK M0) → M0 598 107 ≤ M' 598 107 → (∀ (a : Nat) (i : Int), a ≠ 598 → a ≠ 659 → a ≠ 660 → a ≠ 661 → a ≠ 662 → a ≠ 663 → a ≠ 664 → a ≠ 665 → a ≠ 666 → a ≠ 667 → a ≠ 668 → a ≠ 669 → M' a i = M0 a i) → (∀ (i : Int), i ≠ 73 → i ≠ 74 → i ≠ 75 → i ≠ 76 → i ≠ 77 → i ≠ 78 → i ≠ 79 → i ≠ 80 → i ≠ 81 → i ≠ 89 → i ≠ 90 → i ≠ 96 → i ≠ 100 → i ≠ 102 → i ≠ 107 → M' 598 i = M0 598 i) → Q none M') : ∀ (M : jm) , RI M → RH M → RF M → (∀ (a : Nat) (i : Int), a ≠ 598 → a ≠ 659 → a ≠ 660 → a ≠ 661 → a ≠ 662 → a ≠ 663 → a ≠ 664 → a ≠ 665 → a ≠ 666 → a ≠ 667 → a ≠ 668 → a ≠ 669 → M a i = M0 a i) → (∀ (i : Int), i ≠ 73 → i ≠ 74 → i ≠ 75 → i ≠ 76 → i ≠ 77 → i ≠ 78 → i ≠ 79 → i ≠ 80 → i ≠ 81 → i ≠ 89 → i ≠ 90 → i ≠ 96 → i ≠ 100 → i ≠ 102 → i ≠ 107 → M 598 i = M0 598 i) → XS M 0 (0 + 2 + 2) 0 0 (-1) → AK M → M 598 80 = 0 → M 598 96 < M 598 89 ∧ M 598 89 ≤ 300 → M 598 100 ≤ 12 → M 598 73 ≤ M 598 72 → 1 ≤ M 598 107 ∧ M 598 107 = M0 598 107 → 1 ≤ M 598 88 → (M 598 74 = 3 → M 598 79 ≠ 10 ∧ M 598 79 ≠ 11) → TK M < TK M0 → jr A 7 xm_367 78 [(0, .ref (598))] [] M Q := by
    intro M  hI_M hH_M hS_M hF_M hG_M  hy0 hy1 hy2 hy3 hy4 hy5 hy6 hy7 hy8 hy9
    have hX := hy0
    have hA := hy1
    have dpx := XS.dep hy0
    have sl := XS.sgle hy0
    have bM_107 : (0 : Int) ≤ M 598 107 ∧ M 598 107 ≤ 16 := hI_M 598 107 (Nat.le_of_ble_eq_true rfl)
    have bM_73 : (0 : Int) ≤ M 598 73 ∧ M 598 73 ≤ 1600 := hI_M 598 73 (Nat.le_of_ble_eq_true rfl)
    have bM_88 : (0 : Int) ≤ M 598 88 ∧ M 598 88 ≤ 16 := hI_M 598 88 (Nat.le_of_ble_eq_true rfl)
    have bM_100 : (0 : Int) ≤ M 598 100 ∧ M 598 100 ≤ 13 := hI_M 598 100 (Nat.le_of_ble_eq_true rfl)
    refine jr.aload_n rfl rfl ?_
    refine jr_v rfl rfl (Or.inl rfl) rfl rfl (nlt rfl) rfl ⟨rfl, Nat.le_of_ble_eq_true rfl, Nat.le_of_ble_eq_true rfl⟩ rfl (jc.deep (c_exp hI_M hH_M hS_M ⟨by omega, hX, by omega, by omega, by omega, by omega⟩ (by omega) (fun M1 hI_M1 hH_M1 hS_M1 bs1 wt1 wl1 wc1 wn1 wF1 wG1 => ?_) (fun M1 hI_M1 hH_M1 hS_M1 ss1 wt1 wc1 wn1 wF1 wG1 => ?_)) (Nat.le_of_ble_eq_true rfl))
    · obtain ⟨ba1, bb1⟩ := bs1
      refine jr.aload_n rfl rfl ?_
      obtain ⟨v2, e2⟩ : ∃ z, M1 598 90 = z := ⟨_, rfl⟩
      have b2 : 0 ≤ v2 ∧ v2 ≤ 2200 := by rw [← e2]; exact hI_M1 598 90 (Nat.le_of_ble_eq_true rfl)
      refine jr.getf (i := 90) (x := v2) (v := .int (Int32.ofInt (v2))) rfl rfl (nlt rfl) rfl (nlt rfl) rfl rfl e2 rfl ?_
      refine jr.istore_n (ls' := [_, _]) rfl (nlt rfl) rfl ?_
      refine jr.aload_n rfl rfl ?_
      refine jr.iconst rfl ?_
      refine jr.lconst (x := 0) rfl (by decide) ?_
      refine jr_v rfl rfl (Or.inl rfl) rfl rfl (nlt rfl) rfl ⟨rfl, Nat.le_of_ble_eq_true rfl, Nat.le_of_ble_eq_true rfl⟩ rfl (jc.deep (r_emit e2 (by omega) (by omega) (by omega) ?_) (Nat.le_of_ble_eq_true rfl))
      refine jr.aload_n rfl rfl ?_
      refine jr.iconst rfl ?_
      refine jr.iload_n rfl rfl ?_
      obtain ⟨v4, e4⟩ : ∃ z, M1 598 73 = z := ⟨_, rfl⟩
      have b4 : 0 ≤ v4 ∧ v4 ≤ 1600 := by rw [← e4]; exact hI_M1 598 73 (Nat.le_of_ble_eq_true rfl)
      obtain ⟨v5, e5⟩ : ∃ z, M 598 72 = z := ⟨_, rfl⟩
      have b5 : 0 ≤ v5 ∧ v5 ≤ 1600 := by rw [← e5]; exact hI_M 598 72 (Nat.le_of_ble_eq_true rfl)
      have e6 : M1 598 72 = v5 := ((wG1 72 (by decide) (by decide) (by decide) (by decide) (by decide) (by decide) (by decide) (by decide) (by decide) (by decide) (by decide) (by decide) (by decide)).trans e5)
      obtain ⟨v7, e7⟩ : ∃ z, M1 598 80 = z := ⟨_, rfl⟩
      have b7 : 0 ≤ v7 ∧ v7 ≤ 7 := by rw [← e7]; exact hI_M1 598 80 (Nat.le_of_ble_eq_true rfl)
      obtain ⟨v8, e8⟩ : ∃ z, M1 598 100 = z := ⟨_, rfl⟩
      have b8 : 0 ≤ v8 ∧ v8 ≤ 13 := by rw [← e8]; exact hI_M1 598 100 (Nat.le_of_ble_eq_true rfl)
      obtain ⟨v9, e9⟩ : ∃ z, M 598 107 = z := ⟨_, rfl⟩
      have b9 : 0 ≤ v9 ∧ v9 ≤ 16 := by rw [← e9]; exact hI_M 598 107 (Nat.le_of_ble_eq_true rfl)
      have e10 : M1 598 107 = v9 := ((wG1 107 (by decide) (by decide) (by decide) (by decide) (by decide) (by decide) (by decide) (by decide) (by decide) (by decide) (by decide) (by decide) (by decide)).trans e9)
      obtain ⟨v12, e12⟩ : ∃ z, M1 598 74 = z := ⟨_, rfl⟩
      have b12 : 0 ≤ v12 ∧ v12 ≤ 4 := by rw [← e12]; exact hI_M1 598 74 (Nat.le_of_ble_eq_true rfl)
      obtain ⟨v14, e14⟩ : ∃ z, M1 598 79 = z := ⟨_, rfl⟩
      have b14 : 0 ≤ v14 ∧ v14 ≤ 255 := by rw [← e14]; exact hI_M1 598 79 (Nat.le_of_ble_eq_true rfl)
      obtain ⟨v18, e18⟩ : ∃ z, M 598 101 = z := ⟨_, rfl⟩
      have b18 : 0 ≤ v18 ∧ v18 ≤ 1 := by rw [← e18]; exact hI_M 598 101 (Nat.le_of_ble_eq_true rfl)
      have e19 : M1 598 101 = v18 := ((wG1 101 (by decide) (by decide) (by decide) (by decide) (by decide) (by decide) (by decide) (by decide) (by decide) (by decide) (by decide) (by decide) (by decide)).trans e18)
      refine jr_v rfl rfl (Or.inl rfl) rfl rfl (nlt rfl) rfl ⟨rfl, Nat.le_of_ble_eq_true rfl, Nat.le_of_ble_eq_true rfl⟩ rfl (jc.deep (r_beginBlock (RI.u (RI.u (RI.u hI_M1 (a := 659) (i := v2) (by rw [xri_row rfl rfl]; show (0 : Int) ≤ _ ∧ _ ≤ (1000 : Int); omega)) (a := 660) (i := v2) (by rw [xri_row rfl rfl]; show (-9223372036854775808 : Int) ≤ _ ∧ _ ≤ (9223372036854775807 : Int); omega)) (a := 598) (i := 90) (show (0 : Int) ≤ _ ∧ _ ≤ (2200 : Int) from by omega)) (RH.o (RH.o (RH.o hH_M1 (by decide) (by decide) (by decide)) (by decide) (by decide) (by decide)) (by decide) (by decide) (by decide)) (RF.o (RF.o (RF.o hS_M1 (by decide) (by decide)) (by decide) (by decide)) (by decide) (by decide))  (by omega) (by omega) (by rw [((ju_i _ _ (zne (by decide))).trans ((ju_c _ _ (by decide)).trans ((ju_c _ _ (by decide)).trans e4))), ((ju_i _ _ (zne (by decide))).trans ((ju_c _ _ (by decide)).trans ((ju_c _ _ (by decide)).trans e6)))]; omega) (by rw [((ju_i _ _ (zne (by decide))).trans ((ju_c _ _ (by decide)).trans ((ju_c _ _ (by decide)).trans e7))), ((ju_i _ _ (zne (by decide))).trans ((ju_c _ _ (by decide)).trans ((ju_c _ _ (by decide)).trans e8)))]; intro q; omega) (by rw [((ju_i _ _ (zne (by decide))).trans ((ju_c _ _ (by decide)).trans ((ju_c _ _ (by decide)).trans e10)))]; omega) (fun M3 hI_M3 hH_M3 hS_M3  w3_0 w3_1 w3_2 w3_3 w3_4 w3_5 w3_6 w3_7 w3_8 w3_9 w3_10 w3_11 => ?_)) (Nat.le_of_ble_eq_true rfl))
      have y11 : (ju (ju (ju M1 659 v2 1) 660 v2 0) 598 90 (v2 + 1)) 598 73 = v4 := ((ju_i _ _ (zne (by decide))).trans ((ju_c _ _ (by decide)).trans ((ju_c _ _ (by decide)).trans e4)))
      have y13 : (ju (ju (ju M1 659 v2 1) 660 v2 0) 598 90 (v2 + 1)) 598 74 = v12 := ((ju_i _ _ (zne (by decide))).trans ((ju_c _ _ (by decide)).trans ((ju_c _ _ (by decide)).trans e12)))
      have y15 : (ju (ju (ju M1 659 v2 1) 660 v2 0) 598 90 (v2 + 1)) 598 79 = v14 := ((ju_i _ _ (zne (by decide))).trans ((ju_c _ _ (by decide)).trans ((ju_c _ _ (by decide)).trans e14)))
      have y16 : (ju (ju (ju M1 659 v2 1) 660 v2 0) 598 90 (v2 + 1)) 598 80 = v7 := ((ju_i _ _ (zne (by decide))).trans ((ju_c _ _ (by decide)).trans ((ju_c _ _ (by decide)).trans e7)))
      have y17 : (ju (ju (ju M1 659 v2 1) 660 v2 0) 598 90 (v2 + 1)) 598 90 = v2 + 1 := (ju_same _ _ _ _)
      have y20 : (ju (ju (ju M1 659 v2 1) 660 v2 0) 598 90 (v2 + 1)) 598 101 = v18 := ((ju_i _ _ (zne (by decide))).trans ((ju_c _ _ (by decide)).trans ((ju_c _ _ (by decide)).trans e19)))
      have y21 : (ju (ju (ju M1 659 v2 1) 660 v2 0) 598 90 (v2 + 1)) 598 107 = v9 := ((ju_i _ _ (zne (by decide))).trans ((ju_c _ _ (by decide)).trans ((ju_c _ _ (by decide)).trans e10)))
      have tb3 : TK (ju (ju (ju M1 659 v2 1) 660 v2 0) 598 90 (v2 + 1)) = TK M1 := ((TK.o (Or.inr ⟨by decide, by decide⟩)).trans ((TK.o (Or.inl (by decide))).trans ((TK.o (Or.inl (by decide))).trans rfl)))
      have e22 : M3 598 72 = v5 := ((w3_11 72 (zne rfl) (zne rfl) (zne rfl) (zne rfl) (zne rfl) (zne rfl) (zne rfl) (zne rfl) (zne rfl) (zne rfl) (zne rfl)).trans ((ju_i _ _ (zne (by decide))).trans ((ju_c _ _ (by decide)).trans ((ju_c _ _ (by decide)).trans e6))))
      obtain ⟨v24, e24⟩ : ∃ z, M3 598 73 = z := ⟨_, rfl⟩
      have b24 : 0 ≤ v24 ∧ v24 ≤ 1600 := by rw [← e24]; exact hI_M3 598 73 (Nat.le_of_ble_eq_true rfl)
      obtain ⟨v26, e26⟩ : ∃ z, M3 598 74 = z := ⟨_, rfl⟩
      have b26 : 0 ≤ v26 ∧ v26 ≤ 4 := by rw [← e26]; exact hI_M3 598 74 (Nat.le_of_ble_eq_true rfl)
      obtain ⟨v28, e28⟩ : ∃ z, M3 598 79 = z := ⟨_, rfl⟩
      have b28 : 0 ≤ v28 ∧ v28 ≤ 255 := by rw [← e28]; exact hI_M3 598 79 (Nat.le_of_ble_eq_true rfl)
      obtain ⟨v30, e30⟩ : ∃ z, M3 598 80 = z := ⟨_, rfl⟩
      have b30 : 0 ≤ v30 ∧ v30 ≤ 7 := by rw [← e30]; exact hI_M3 598 80 (Nat.le_of_ble_eq_true rfl)
      obtain ⟨v32, e32⟩ : ∃ z, M1 598 89 = z := ⟨_, rfl⟩
      have b32 : 0 ≤ v32 ∧ v32 ≤ 301 := by rw [← e32]; exact hI_M1 598 89 (Nat.le_of_ble_eq_true rfl)
      have e33 : M3 598 89 = v32 := ((w3_11 89 (zne rfl) (zne rfl) (zne rfl) (zne rfl) (zne rfl) (zne rfl) (zne rfl) (zne rfl) (zne rfl) (zne rfl) (zne rfl)).trans ((ju_i _ _ (zne (by decide))).trans ((ju_c _ _ (by decide)).trans ((ju_c _ _ (by decide)).trans e32))))
      have e35 : M3 598 90 = v2 + 1 := ((w3_11 90 (zne rfl) (zne rfl) (zne rfl) (zne rfl) (zne rfl) (zne rfl) (zne rfl) (zne rfl) (zne rfl) (zne rfl) (zne rfl)).trans (ju_same _ _ _ _))
      obtain ⟨v37, e37⟩ : ∃ z, M 598 96 = z := ⟨_, rfl⟩
      have b37 : 0 ≤ v37 ∧ v37 ≤ 300 := by rw [← e37]; exact hI_M 598 96 (Nat.le_of_ble_eq_true rfl)
      have e38 : M1 598 96 = v37 := ((wG1 96 (by decide) (by decide) (by decide) (by decide) (by decide) (by decide) (by decide) (by decide) (by decide) (by decide) (by decide) (by decide) (by decide)).trans e37)
      have e39 : M3 598 96 = v37 := ((w3_11 96 (zne rfl) (zne rfl) (zne rfl) (zne rfl) (zne rfl) (zne rfl) (zne rfl) (zne rfl) (zne rfl) (zne rfl) (zne rfl)).trans ((ju_i _ _ (zne (by decide))).trans ((ju_c _ _ (by decide)).trans ((ju_c _ _ (by decide)).trans e38))))
      obtain ⟨v41, e41⟩ : ∃ z, M3 598 100 = z := ⟨_, rfl⟩
      have b41 : 0 ≤ v41 ∧ v41 ≤ 13 := by rw [← e41]; exact hI_M3 598 100 (Nat.le_of_ble_eq_true rfl)
      obtain ⟨v43, e43⟩ : ∃ z, M3 598 107 = z := ⟨_, rfl⟩
      have b43 : 0 ≤ v43 ∧ v43 ≤ 16 := by rw [← e43]; exact hI_M3 598 107 (Nat.le_of_ble_eq_true rfl)
      exact jr.vreturn rfl rfl (q _ hI_M3 hH_M3 hS_M3  (Or.inl ⟨by omega, by omega⟩) (by omega) (by omega) (by omega) (by omega) (fun a i f598 f659 f660 f661 f662 f663 f664 f665 f666 f667 f668 f669 => ((w3_10 a i f598 f668 f669).trans ((ju_c _ _ f598).trans ((ju_c _ _ f660).trans ((ju_c _ _ f659).trans ((wF1 a i f598 f659 f660 f664 f665 f666 f667).trans (hF_M a i f598 f659 f660 f661 f662 f663 f664 f665 f666 f667 f668 f669))))))) (fun i g73 g74 g75 g76 g77 g78 g79 g80 g81 g89 g90 g96 g100 g102 g107 => ((w3_11 i g73 g74 g75 g76 g77 g78 g79 g80 g81 g100 g107).trans ((ju_i _ _ g90).trans ((ju_c _ _ (by decide)).trans ((ju_c _ _ (by decide)).trans ((wG1 i g73 g74 g75 g76 g77 g78 g79 g80 g81 g89 g90 g100 g102).trans (hG_M i g73 g74 g75 g76 g77 g78 g79 g80 g81 g89 g90 g96 g100 g102 g107))))))))
    · obtain ⟨sa1, hX, sc1, sd1, se1, sf1⟩ := ss1
      have hA := AK.cp hA wc1 (fun i => wF1 663 i (by decide) (by decide) (by decide) (by decide) (by decide) (by decide) (by decide)) (wG1 96 (by decide) (by decide) (by decide) (by decide) (by decide) (by decide) (by decide) (by decide) (by decide) (by decide) (by decide) (by decide) (by decide))
      have dpx1 := XS.dep hX
      have sl1 := XS.sgle hX
      have bM1_107 : (0 : Int) ≤ M1 598 107 ∧ M1 598 107 ≤ 16 := hI_M1 598 107 (Nat.le_of_ble_eq_true rfl)
      have bM1_73 : (0 : Int) ≤ M1 598 73 ∧ M1 598 73 ≤ 1600 := hI_M1 598 73 (Nat.le_of_ble_eq_true rfl)
      have bM1_88 : (0 : Int) ≤ M1 598 88 ∧ M1 598 88 ≤ 16 := hI_M1 598 88 (Nat.le_of_ble_eq_true rfl)
      have bM1_100 : (0 : Int) ≤ M1 598 100 ∧ M1 598 100 ≤ 13 := hI_M1 598 100 (Nat.le_of_ble_eq_true rfl)
      refine jr.aload_n rfl rfl ?_
      obtain ⟨v45, e45⟩ : ∃ z, M1 598 90 = z := ⟨_, rfl⟩
      have b45 : 0 ≤ v45 ∧ v45 ≤ 2200 := by rw [← e45]; exact hI_M1 598 90 (Nat.le_of_ble_eq_true rfl)
      refine jr.getf (i := 90) (x := v45) (v := .int (Int32.ofInt (v45))) rfl rfl (nlt rfl) rfl (nlt rfl) rfl rfl e45 rfl ?_
      refine jr.istore_n (ls' := [_, _]) rfl (nlt rfl) rfl ?_
      refine jr.aload_n rfl rfl ?_
      refine jr.iconst rfl ?_
      refine jr.lconst (x := 0) rfl (by decide) ?_
      obtain ⟨v46, e46⟩ : ∃ z, M1 598 100 = z := ⟨_, rfl⟩
      have b46 : 0 ≤ v46 ∧ v46 ≤ 13 := by rw [← e46]; exact hI_M1 598 100 (Nat.le_of_ble_eq_true rfl)
      obtain ⟨v48, e48⟩ : ∃ z, M 598 107 = z := ⟨_, rfl⟩
      have b48 : 0 ≤ v48 ∧ v48 ≤ 16 := by rw [← e48]; exact hI_M 598 107 (Nat.le_of_ble_eq_true rfl)
      have e49 : M1 598 107 = v48 := ((wG1 107 (by decide) (by decide) (by decide) (by decide) (by decide) (by decide) (by decide) (by decide) (by decide) (by decide) (by decide) (by decide) (by decide)).trans e48)
      refine jr_v rfl rfl (Or.inl rfl) rfl rfl (nlt rfl) rfl ⟨rfl, Nat.le_of_ble_eq_true rfl, Nat.le_of_ble_eq_true rfl⟩ rfl (jc.deep (r_emit e45 (by omega) (by omega) (by omega) ?_) (Nat.le_of_ble_eq_true rfl))
      have hX := XS.jin hX e45 (by omega) (by omega)
      have hA := AK.emit (op := 1) (a := 0) hA e45
      have hB : LB _ := LB.emit (M := M1) (c := v45) (op := 1) (a := 0) (by decide)
      refine jr.aload_n rfl rfl ?_
      refine jr.iconst rfl ?_
      refine jr.iload_n rfl rfl ?_
      obtain ⟨v52, e52⟩ : ∃ z, M1 598 73 = z := ⟨_, rfl⟩
      have b52 : 0 ≤ v52 ∧ v52 ≤ 1600 := by rw [← e52]; exact hI_M1 598 73 (Nat.le_of_ble_eq_true rfl)
      obtain ⟨v53, e53⟩ : ∃ z, M 598 72 = z := ⟨_, rfl⟩
      have b53 : 0 ≤ v53 ∧ v53 ≤ 1600 := by rw [← e53]; exact hI_M 598 72 (Nat.le_of_ble_eq_true rfl)
      have e54 : M1 598 72 = v53 := ((wG1 72 (by decide) (by decide) (by decide) (by decide) (by decide) (by decide) (by decide) (by decide) (by decide) (by decide) (by decide) (by decide) (by decide)).trans e53)
      obtain ⟨v55, e55⟩ : ∃ z, M1 598 80 = z := ⟨_, rfl⟩
      have b55 : 0 ≤ v55 ∧ v55 ≤ 7 := by rw [← e55]; exact hI_M1 598 80 (Nat.le_of_ble_eq_true rfl)
      obtain ⟨v57, e57⟩ : ∃ z, M1 598 74 = z := ⟨_, rfl⟩
      have b57 : 0 ≤ v57 ∧ v57 ≤ 4 := by rw [← e57]; exact hI_M1 598 74 (Nat.le_of_ble_eq_true rfl)
      obtain ⟨v59, e59⟩ : ∃ z, M1 598 79 = z := ⟨_, rfl⟩
      have b59 : 0 ≤ v59 ∧ v59 ≤ 255 := by rw [← e59]; exact hI_M1 598 79 (Nat.le_of_ble_eq_true rfl)
      obtain ⟨v63, e63⟩ : ∃ z, M 598 101 = z := ⟨_, rfl⟩
      have b63 : 0 ≤ v63 ∧ v63 ≤ 1 := by rw [← e63]; exact hI_M 598 101 (Nat.le_of_ble_eq_true rfl)
      have e64 : M1 598 101 = v63 := ((wG1 101 (by decide) (by decide) (by decide) (by decide) (by decide) (by decide) (by decide) (by decide) (by decide) (by decide) (by decide) (by decide) (by decide)).trans e63)
      refine jr_v rfl rfl (Or.inl rfl) rfl rfl (nlt rfl) rfl ⟨rfl, Nat.le_of_ble_eq_true rfl, Nat.le_of_ble_eq_true rfl⟩ rfl (jc.deep (r_beginBlock (RI.u (RI.u (RI.u hI_M1 (a := 659) (i := v45) (by rw [xri_row rfl rfl]; show (0 : Int) ≤ _ ∧ _ ≤ (1000 : Int); omega)) (a := 660) (i := v45) (by rw [xri_row rfl rfl]; show (-9223372036854775808 : Int) ≤ _ ∧ _ ≤ (9223372036854775807 : Int); omega)) (a := 598) (i := 90) (show (0 : Int) ≤ _ ∧ _ ≤ (2200 : Int) from by omega)) (RH.o (RH.o (RH.o hH_M1 (by decide) (by decide) (by decide)) (by decide) (by decide) (by decide)) (by decide) (by decide) (by decide)) (RF.o (RF.o (RF.o hS_M1 (by decide) (by decide)) (by decide) (by decide)) (by decide) (by decide))  (by omega) (by omega) (by rw [((ju_i _ _ (zne (by decide))).trans ((ju_c _ _ (by decide)).trans ((ju_c _ _ (by decide)).trans e52))), ((ju_i _ _ (zne (by decide))).trans ((ju_c _ _ (by decide)).trans ((ju_c _ _ (by decide)).trans e54)))]; omega) (by rw [((ju_i _ _ (zne (by decide))).trans ((ju_c _ _ (by decide)).trans ((ju_c _ _ (by decide)).trans e55))), ((ju_i _ _ (zne (by decide))).trans ((ju_c _ _ (by decide)).trans ((ju_c _ _ (by decide)).trans e46)))]; intro q; omega) (by rw [((ju_i _ _ (zne (by decide))).trans ((ju_c _ _ (by decide)).trans ((ju_c _ _ (by decide)).trans e49)))]; omega) (fun M51 hI_M51 hH_M51 hS_M51  w51_0 w51_1 w51_2 w51_3 w51_4 w51_5 w51_6 w51_7 w51_8 w51_9 w51_10 w51_11 => ?_)) (Nat.le_of_ble_eq_true rfl))
      have y56 : (ju (ju (ju M1 659 v45 1) 660 v45 0) 598 90 (v45 + 1)) 598 73 = v52 := ((ju_i _ _ (zne (by decide))).trans ((ju_c _ _ (by decide)).trans ((ju_c _ _ (by decide)).trans e52)))
      have y58 : (ju (ju (ju M1 659 v45 1) 660 v45 0) 598 90 (v45 + 1)) 598 74 = v57 := ((ju_i _ _ (zne (by decide))).trans ((ju_c _ _ (by decide)).trans ((ju_c _ _ (by decide)).trans e57)))
      have y60 : (ju (ju (ju M1 659 v45 1) 660 v45 0) 598 90 (v45 + 1)) 598 79 = v59 := ((ju_i _ _ (zne (by decide))).trans ((ju_c _ _ (by decide)).trans ((ju_c _ _ (by decide)).trans e59)))
      have y61 : (ju (ju (ju M1 659 v45 1) 660 v45 0) 598 90 (v45 + 1)) 598 80 = v55 := ((ju_i _ _ (zne (by decide))).trans ((ju_c _ _ (by decide)).trans ((ju_c _ _ (by decide)).trans e55)))
      have y62 : (ju (ju (ju M1 659 v45 1) 660 v45 0) 598 90 (v45 + 1)) 598 90 = v45 + 1 := (ju_same _ _ _ _)
      have y65 : (ju (ju (ju M1 659 v45 1) 660 v45 0) 598 90 (v45 + 1)) 598 101 = v63 := ((ju_i _ _ (zne (by decide))).trans ((ju_c _ _ (by decide)).trans ((ju_c _ _ (by decide)).trans e64)))
      have y66 : (ju (ju (ju M1 659 v45 1) 660 v45 0) 598 90 (v45 + 1)) 598 107 = v48 := ((ju_i _ _ (zne (by decide))).trans ((ju_c _ _ (by decide)).trans ((ju_c _ _ (by decide)).trans e49)))
      have tb51 : TK (ju (ju (ju M1 659 v45 1) 660 v45 0) 598 90 (v45 + 1)) = TK M1 := ((TK.o (Or.inr ⟨by decide, by decide⟩)).trans ((TK.o (Or.inl (by decide))).trans ((TK.o (Or.inl (by decide))).trans rfl)))
      have e67 : M51 598 72 = v53 := ((w51_11 72 (zne rfl) (zne rfl) (zne rfl) (zne rfl) (zne rfl) (zne rfl) (zne rfl) (zne rfl) (zne rfl) (zne rfl) (zne rfl)).trans ((ju_i _ _ (zne (by decide))).trans ((ju_c _ _ (by decide)).trans ((ju_c _ _ (by decide)).trans e54))))
      obtain ⟨v69, e69⟩ : ∃ z, M51 598 73 = z := ⟨_, rfl⟩
      have b69 : 0 ≤ v69 ∧ v69 ≤ 1600 := by rw [← e69]; exact hI_M51 598 73 (Nat.le_of_ble_eq_true rfl)
      obtain ⟨v71, e71⟩ : ∃ z, M51 598 74 = z := ⟨_, rfl⟩
      have b71 : 0 ≤ v71 ∧ v71 ≤ 4 := by rw [← e71]; exact hI_M51 598 74 (Nat.le_of_ble_eq_true rfl)
      obtain ⟨v73, e73⟩ : ∃ z, M51 598 79 = z := ⟨_, rfl⟩
      have b73 : 0 ≤ v73 ∧ v73 ≤ 255 := by rw [← e73]; exact hI_M51 598 79 (Nat.le_of_ble_eq_true rfl)
      obtain ⟨v75, e75⟩ : ∃ z, M51 598 80 = z := ⟨_, rfl⟩
      have b75 : 0 ≤ v75 ∧ v75 ≤ 7 := by rw [← e75]; exact hI_M51 598 80 (Nat.le_of_ble_eq_true rfl)
      obtain ⟨v77, e77⟩ : ∃ z, M1 598 89 = z := ⟨_, rfl⟩
      have b77 : 0 ≤ v77 ∧ v77 ≤ 301 := by rw [← e77]; exact hI_M1 598 89 (Nat.le_of_ble_eq_true rfl)
      have e78 : M51 598 89 = v77 := ((w51_11 89 (zne rfl) (zne rfl) (zne rfl) (zne rfl) (zne rfl) (zne rfl) (zne rfl) (zne rfl) (zne rfl) (zne rfl) (zne rfl)).trans ((ju_i _ _ (zne (by decide))).trans ((ju_c _ _ (by decide)).trans ((ju_c _ _ (by decide)).trans e77))))
      have e80 : M51 598 90 = v45 + 1 := ((w51_11 90 (zne rfl) (zne rfl) (zne rfl) (zne rfl) (zne rfl) (zne rfl) (zne rfl) (zne rfl) (zne rfl) (zne rfl) (zne rfl)).trans (ju_same _ _ _ _))
      obtain ⟨v82, e82⟩ : ∃ z, M 598 96 = z := ⟨_, rfl⟩
      have b82 : 0 ≤ v82 ∧ v82 ≤ 300 := by rw [← e82]; exact hI_M 598 96 (Nat.le_of_ble_eq_true rfl)
      have e83 : M1 598 96 = v82 := ((wG1 96 (by decide) (by decide) (by decide) (by decide) (by decide) (by decide) (by decide) (by decide) (by decide) (by decide) (by decide) (by decide) (by decide)).trans e82)
      have e84 : M51 598 96 = v82 := ((w51_11 96 (zne rfl) (zne rfl) (zne rfl) (zne rfl) (zne rfl) (zne rfl) (zne rfl) (zne rfl) (zne rfl) (zne rfl) (zne rfl)).trans ((ju_i _ _ (zne (by decide))).trans ((ju_c _ _ (by decide)).trans ((ju_c _ _ (by decide)).trans e83))))
      obtain ⟨v86, e86⟩ : ∃ z, M51 598 100 = z := ⟨_, rfl⟩
      have b86 : 0 ≤ v86 ∧ v86 ≤ 13 := by rw [← e86]; exact hI_M51 598 100 (Nat.le_of_ble_eq_true rfl)
      obtain ⟨v88, e88⟩ : ∃ z, M51 598 107 = z := ⟨_, rfl⟩
      have b88 : 0 ≤ v88 ∧ v88 ≤ 16 := by rw [← e88]; exact hI_M51 598 107 (Nat.le_of_ble_eq_true rfl)
      exact jr.vreturn rfl rfl (q _ hI_M51 hH_M51 hS_M51  (by by_cases hf : v75 = 0; (first | (have hX := w51_9 0 (0 + 2) 0 1 _ hX (by omega) (by omega) (fun _ => ⟨by omega, by omega, by omega, by omega, by rw [ju_c _ _ (by decide), ju_c _ _ (by decide), ju_same]; rfl, rfl⟩) (by rw [RVq_s (by omega)]; omega) (by omega); have hB := LB.fr hB (fun i => w51_10 659 i (nne rfl) (nne rfl) (nne rfl)) (w51_11 90 (zne rfl) (zne rfl) (zne rfl) (zne rfl) (zne rfl) (zne rfl) (zne rfl) (zne rfl) (zne rfl) (zne rfl) (zne rfl)); have hA := AK.cp hA (CP.f (CP.rfl _) (fun i => w51_10 659 i (nne rfl) (nne rfl) (nne rfl)) (w51_11 90 (zne rfl) (zne rfl) (zne rfl) (zne rfl) (zne rfl) (zne rfl) (zne rfl) (zne rfl) (zne rfl) (zne rfl) (zne rfl))) (fun i => w51_10 663 i (nne rfl) (nne rfl) (nne rfl)) (w51_11 96 (zne rfl) (zne rfl) (zne rfl) (zne rfl) (zne rfl) (zne rfl) (zne rfl) (zne rfl) (zne rfl) (zne rfl) (zne rfl)); exact Or.inr ⟨⟨by omega, XS.adj hX (k' := 0) (z' := 0) (by omega) (by omega) (by omega), by omega, by omega, by omega, by omega, hB, hA, by omega⟩, by omega⟩) | (exfalso; omega)); (exact Or.inl ⟨by omega, by omega⟩)) (by omega) (by omega) (by omega) (by omega) (fun a i f598 f659 f660 f661 f662 f663 f664 f665 f666 f667 f668 f669 => ((w51_10 a i f598 f668 f669).trans ((ju_c _ _ f598).trans ((ju_c _ _ f660).trans ((ju_c _ _ f659).trans ((wF1 a i f598 f659 f660 f664 f665 f666 f667).trans (hF_M a i f598 f659 f660 f661 f662 f663 f664 f665 f666 f667 f668 f669))))))) (fun i g73 g74 g75 g76 g77 g78 g79 g80 g81 g89 g90 g96 g100 g102 g107 => ((w51_11 i g73 g74 g75 g76 g77 g78 g79 g80 g81 g100 g107).trans ((ju_i _ _ g90).trans ((ju_c _ _ (by decide)).trans ((ju_c _ _ (by decide)).trans ((wG1 i g73 g74 g75 g76 g77 g78 g79 g80 g81 g89 g90 g100 g102).trans (hG_M i g73 g74 g75 g76 g77 g78 g79 g80 g81 g89 g90 g96 g100 g102 g107))))))))
theorem r_deed_L63 {A : Nat → Option (Nat × (Nat → Int32))} {Q : Option Value → jm → Prop} {M0 : jm} (q : ∀ (M' : jm), RI M' → RH M' → RF M' → (BT M' ∨ (DS M' 0 ∧ TK M' < TK M0)) → TK M' ≤ TK M0 → M' 598 73 ≤ M' 598 72 → (M' 598 80 ≠ 0 ∨ TK M' < TK M0) → M0 598 107 ≤ M' 598 107 → (∀ (a : Nat) (i : Int), a ≠ 598 → a ≠ 659 → a ≠ 660 → a ≠ 661 → a ≠ 662 → a ≠ 663 → a ≠ 664 → a ≠ 665 → a ≠ 666 → a ≠ 667 → a ≠ 668 → a ≠ 669 → M' a i = M0 a i) → (∀ (i : Int), i ≠ 73 → i ≠ 74 → i ≠ 75 → i ≠ 76 → i ≠ 77 → i ≠ 78 → i ≠ 79 → i ≠ 80 → i ≠ 81 → i ≠ 89 → i ≠ 90 → i ≠ 96 → i ≠ 100 → i ≠ 102 → i ≠ 107 → M' 598 i = M0 598 i) → Q none M') : ∀ (M : jm) (w : Int), RI M → RH M → RF M → (∀ (a : Nat) (i : Int), a ≠ 598 → a ≠ 659 → a ≠ 660 → a ≠ 661 → a ≠ 662 → a ≠ 663 → a ≠ 664 → a ≠ 665 → a ≠ 666 → a ≠ 667 → a ≠ 668 → a ≠ 669 → M a i = M0 a i) → (∀ (i : Int), i ≠ 73 → i ≠ 74 → i ≠ 75 → i ≠ 76 → i ≠ 77 → i ≠ 78 → i ≠ 79 → i ≠ 80 → i ≠ 81 → i ≠ 89 → i ≠ 90 → i ≠ 96 → i ≠ 100 → i ≠ 102 → i ≠ 107 → M 598 i = M0 598 i) → 2 ≤ w ∧ w ≤ 18 → XS M 0 (2 + 2 + 2) 0 0 (-1) → AK M → M 598 80 = 0 → M 598 96 < M 598 89 ∧ M 598 89 ≤ 300 → M 598 100 ≤ 12 → M 598 73 ≤ M 598 72 → 1 ≤ M 598 107 ∧ M 598 107 = M0 598 107 → 1 ≤ M 598 88 → (M 598 74 = 3 → M 598 79 ≠ 10 ∧ M 598 79 ≠ 11) → TK M = TK M0 → M 598 74 = 1 → (w = 2 ∨ 4 ≤ w) → jr A 7 xm_367 63 [(1, .int (Int32.ofInt (w))), (0, .ref (598))] [] M Q := by
    intro M w hI_M hH_M hS_M hF_M hG_M h_w hy0 hy1 hy2 hy3 hy4 hy5 hy6 hy7 hy8 hy9 hy10 hy11
    have hX := hy0
    have hA := hy1
    have dpx := XS.dep hy0
    have sl := XS.sgle hy0
    have bM_107 : (0 : Int) ≤ M 598 107 ∧ M 598 107 ≤ 16 := hI_M 598 107 (Nat.le_of_ble_eq_true rfl)
    have bM_73 : (0 : Int) ≤ M 598 73 ∧ M 598 73 ≤ 1600 := hI_M 598 73 (Nat.le_of_ble_eq_true rfl)
    have bM_88 : (0 : Int) ≤ M 598 88 ∧ M 598 88 ≤ 16 := hI_M 598 88 (Nat.le_of_ble_eq_true rfl)
    have bM_100 : (0 : Int) ≤ M 598 100 ∧ M 598 100 ≤ 13 := hI_M 598 100 (Nat.le_of_ble_eq_true rfl)
    have nn0 := (ndo_le (20 + w)).1
    refine jr.aload_n rfl rfl ?_
    refine jr.iconst rfl ?_
    refine jr.lconst (x := 0) rfl (by decide) ?_
    obtain ⟨v1, e1⟩ : ∃ z, M 598 90 = z := ⟨_, rfl⟩
    have b1 : 0 ≤ v1 ∧ v1 ≤ 2200 := by rw [← e1]; exact hI_M 598 90 (Nat.le_of_ble_eq_true rfl)
    obtain ⟨v2, e2⟩ : ∃ z, M 598 100 = z := ⟨_, rfl⟩
    have b2 : 0 ≤ v2 ∧ v2 ≤ 13 := by rw [← e2]; exact hI_M 598 100 (Nat.le_of_ble_eq_true rfl)
    obtain ⟨v4, e4⟩ : ∃ z, M 598 107 = z := ⟨_, rfl⟩
    have b4 : 0 ≤ v4 ∧ v4 ≤ 16 := by rw [← e4]; exact hI_M 598 107 (Nat.le_of_ble_eq_true rfl)
    refine jr_v rfl rfl (Or.inl rfl) rfl rfl (nlt rfl) rfl ⟨rfl, Nat.le_of_ble_eq_true rfl, Nat.le_of_ble_eq_true rfl⟩ rfl (jc.deep (r_emit e1 (by omega) (by omega) (by omega) ?_) (Nat.le_of_ble_eq_true rfl))
    have hX := XS.step hX e1 (by omega) (by omega)
    have hA := AK.emit (op := 0) (a := 0) hA e1
    refine jr.aload_n rfl rfl ?_
    obtain ⟨v7, e7⟩ : ∃ z, M 598 73 = z := ⟨_, rfl⟩
    have b7 : 0 ≤ v7 ∧ v7 ≤ 1600 := by rw [← e7]; exact hI_M 598 73 (Nat.le_of_ble_eq_true rfl)
    obtain ⟨v8, e8⟩ : ∃ z, M 598 72 = z := ⟨_, rfl⟩
    have b8 : 0 ≤ v8 ∧ v8 ≤ 1600 := by rw [← e8]; exact hI_M 598 72 (Nat.le_of_ble_eq_true rfl)
    obtain ⟨v10, e10⟩ : ∃ z, M 598 74 = z := ⟨_, rfl⟩
    have b10 : 0 ≤ v10 ∧ v10 ≤ 4 := by rw [← e10]; exact hI_M 598 74 (Nat.le_of_ble_eq_true rfl)
    obtain ⟨v12, e12⟩ : ∃ z, M 598 89 = z := ⟨_, rfl⟩
    have b12 : 0 ≤ v12 ∧ v12 ≤ 301 := by rw [← e12]; exact hI_M 598 89 (Nat.le_of_ble_eq_true rfl)
    refine jr_v rfl rfl (Or.inl rfl) rfl rfl (nlt rfl) rfl ⟨rfl, Nat.le_of_ble_eq_true rfl, Nat.le_of_ble_eq_true rfl⟩ rfl (jc.deep (r_next (RI.u (RI.u (RI.u hI_M (a := 659) (i := v1) (by rw [xri_row rfl rfl]; show (0 : Int) ≤ _ ∧ _ ≤ (1000 : Int); omega)) (a := 660) (i := v1) (by rw [xri_row rfl rfl]; show (-9223372036854775808 : Int) ≤ _ ∧ _ ≤ (9223372036854775807 : Int); omega)) (a := 598) (i := 90) (show (0 : Int) ≤ _ ∧ _ ≤ (2200 : Int) from by omega)) (RH.o (RH.o (RH.o hH_M (by decide) (by decide) (by decide)) (by decide) (by decide) (by decide)) (by decide) (by decide) (by decide)) (RF.o (RF.o (RF.o hS_M (by decide) (by decide)) (by decide) (by decide)) (by decide) (by decide))   (by rw [((ju_i _ _ (zne (by decide))).trans ((ju_c _ _ (by decide)).trans ((ju_c _ _ (by decide)).trans e7))), ((ju_i _ _ (zne (by decide))).trans ((ju_c _ _ (by decide)).trans ((ju_c _ _ (by decide)).trans e8)))]; omega) (fun M6 hI_M6 hH_M6 hS_M6  w6_0 w6_1 w6_2 w6_3 w6_4 w6_5 w6_6 => ?_)) (Nat.le_of_ble_eq_true rfl))
    have y15 : (ju (ju (ju M 659 v1 0) 660 v1 0) 598 90 (v1 + 1)) 598 73 = v7 := ((ju_i _ _ (zne (by decide))).trans ((ju_c _ _ (by decide)).trans ((ju_c _ _ (by decide)).trans e7)))
    have y16 : (ju (ju (ju M 659 v1 0) 660 v1 0) 598 90 (v1 + 1)) 598 74 = v10 := ((ju_i _ _ (zne (by decide))).trans ((ju_c _ _ (by decide)).trans ((ju_c _ _ (by decide)).trans e10)))
    have tb6 : TK (ju (ju (ju M 659 v1 0) 660 v1 0) 598 90 (v1 + 1)) = TK M := ((TK.o (Or.inr ⟨by decide, by decide⟩)).trans ((TK.o (Or.inl (by decide))).trans ((TK.o (Or.inl (by decide))).trans rfl)))
    have y9 : (ju (ju (ju M 659 v1 0) 660 v1 0) 598 90 (v1 + 1)) 598 73 = v7 := ((ju_i _ _ (zne (by decide))).trans ((ju_c _ _ (by decide)).trans ((ju_c _ _ (by decide)).trans e7)))
    have y11 : (ju (ju (ju M 659 v1 0) 660 v1 0) 598 90 (v1 + 1)) 598 74 = v10 := ((ju_i _ _ (zne (by decide))).trans ((ju_c _ _ (by decide)).trans ((ju_c _ _ (by decide)).trans e10)))
    have y13 : (ju (ju (ju M 659 v1 0) 660 v1 0) 598 90 (v1 + 1)) 598 89 = v12 := ((ju_i _ _ (zne (by decide))).trans ((ju_c _ _ (by decide)).trans ((ju_c _ _ (by decide)).trans e12)))
    have y14 : (ju (ju (ju M 659 v1 0) 660 v1 0) 598 90 (v1 + 1)) 598 100 = v2 := ((ju_i _ _ (zne (by decide))).trans ((ju_c _ _ (by decide)).trans ((ju_c _ _ (by decide)).trans e2)))
    have x6_89 := w6_6 89 (zne rfl) (zne rfl) (zne rfl) (zne rfl) (zne rfl) (zne rfl) (zne rfl)
    have x6_100 := w6_6 100 (zne rfl) (zne rfl) (zne rfl) (zne rfl) (zne rfl) (zne rfl) (zne rfl)
    have hX := XS.fr2 hX w6_5 (w6_6 88 (zne rfl) (zne rfl) (zne rfl) (zne rfl) (zne rfl) (zne rfl) (zne rfl)) (w6_6 90 (zne rfl) (zne rfl) (zne rfl) (zne rfl) (zne rfl) (zne rfl) (zne rfl)) (w6_6 101 (zne rfl) (zne rfl) (zne rfl) (zne rfl) (zne rfl) (zne rfl) (zne rfl)) (w6_6 107 (zne rfl) (zne rfl) (zne rfl) (zne rfl) (zne rfl) (zne rfl) (zne rfl)) (k' := 0 + 2 + 2) (d' := 0) (z' := 0) (by omega) (by omega) (by omega) (by omega)
    have hA := AK.cp hA (CP.f (CP.rfl _) (fun i => w6_5 659 i (nne rfl)) (w6_6 90 (zne rfl) (zne rfl) (zne rfl) (zne rfl) (zne rfl) (zne rfl) (zne rfl))) (fun i => w6_5 663 i (nne rfl)) (w6_6 96 (zne rfl) (zne rfl) (zne rfl) (zne rfl) (zne rfl) (zne rfl) (zne rfl))
    refine jr.iload_n rfl rfl ?_
    refine jr.iconst rfl ?_
    refine jr.icmp_ne rfl rfl (by first | (refine rgb (by assumption) ?_; exact rfl) | omega) (rgl rfl) (fun h75 => ?_) (fun h75 => ?_)
    · have sx75 : (3 : Int) ≤ w := by omega
      clear h75
      refine jr.iload_n rfl rfl ?_
      refine jr.bipush rfl (jbp _ (nlt rfl)) ?_
      refine jr.icmp_eq rfl rfl (by first | (refine rgb (by assumption) ?_; exact rfl) | omega) (rgl rfl) (fun h103 => ?_) (fun h103 => ?_)
      · obtain ⟨v17, e17⟩ : ∃ z, M 598 80 = z := ⟨_, rfl⟩
        have b17 : 0 ≤ v17 ∧ v17 ≤ 7 := by rw [← e17]; exact hI_M 598 80 (Nat.le_of_ble_eq_true rfl)
        have e18 : M6 598 80 = v17 := ((w6_6 80 (zne rfl) (zne rfl) (zne rfl) (zne rfl) (zne rfl) (zne rfl) (zne rfl)).trans ((ju_i _ _ (zne (by decide))).trans ((ju_c _ _ (by decide)).trans ((ju_c _ _ (by decide)).trans e17))))
        obtain ⟨v19, e19⟩ : ∃ z, M 598 96 = z := ⟨_, rfl⟩
        have b19 : 0 ≤ v19 ∧ v19 ≤ 300 := by rw [← e19]; exact hI_M 598 96 (Nat.le_of_ble_eq_true rfl)
        have e20 : M6 598 96 = v19 := ((w6_6 96 (zne rfl) (zne rfl) (zne rfl) (zne rfl) (zne rfl) (zne rfl) (zne rfl)).trans ((ju_i _ _ (zne (by decide))).trans ((ju_c _ _ (by decide)).trans ((ju_c _ _ (by decide)).trans e19))))
        have e21 : M6 598 89 = v12 := ((w6_6 89 (zne rfl) (zne rfl) (zne rfl) (zne rfl) (zne rfl) (zne rfl) (zne rfl)).trans ((ju_i _ _ (zne (by decide))).trans ((ju_c _ _ (by decide)).trans ((ju_c _ _ (by decide)).trans e12))))
        have e22 : M6 598 100 = v2 := ((w6_6 100 (zne rfl) (zne rfl) (zne rfl) (zne rfl) (zne rfl) (zne rfl) (zne rfl)).trans ((ju_i _ _ (zne (by decide))).trans ((ju_c _ _ (by decide)).trans ((ju_c _ _ (by decide)).trans e2))))
        obtain ⟨v23, e23⟩ : ∃ z, M6 598 73 = z := ⟨_, rfl⟩
        have b23 : 0 ≤ v23 ∧ v23 ≤ 1600 := by rw [← e23]; exact hI_M6 598 73 (Nat.le_of_ble_eq_true rfl)
        have e24 : M6 598 72 = v8 := ((w6_6 72 (zne rfl) (zne rfl) (zne rfl) (zne rfl) (zne rfl) (zne rfl) (zne rfl)).trans ((ju_i _ _ (zne (by decide))).trans ((ju_c _ _ (by decide)).trans ((ju_c _ _ (by decide)).trans e8))))
        have e25 : M6 598 107 = v4 := ((w6_6 107 (zne rfl) (zne rfl) (zne rfl) (zne rfl) (zne rfl) (zne rfl) (zne rfl)).trans ((ju_i _ _ (zne (by decide))).trans ((ju_c _ _ (by decide)).trans ((ju_c _ _ (by decide)).trans e4))))
        obtain ⟨v26, e26⟩ : ∃ z, M 598 88 = z := ⟨_, rfl⟩
        have b26 : 0 ≤ v26 ∧ v26 ≤ 16 := by rw [← e26]; exact hI_M 598 88 (Nat.le_of_ble_eq_true rfl)
        have e27 : M6 598 88 = v26 := ((w6_6 88 (zne rfl) (zne rfl) (zne rfl) (zne rfl) (zne rfl) (zne rfl) (zne rfl)).trans ((ju_i _ _ (zne (by decide))).trans ((ju_c _ _ (by decide)).trans ((ju_c _ _ (by decide)).trans e26))))
        obtain ⟨v28, e28⟩ : ∃ z, M6 598 74 = z := ⟨_, rfl⟩
        have b28 : 0 ≤ v28 ∧ v28 ≤ 4 := by rw [← e28]; exact hI_M6 598 74 (Nat.le_of_ble_eq_true rfl)
        obtain ⟨v29, e29⟩ : ∃ z, M6 598 79 = z := ⟨_, rfl⟩
        have b29 : 0 ≤ v29 ∧ v29 ≤ 255 := by rw [← e29]; exact hI_M6 598 79 (Nat.le_of_ble_eq_true rfl)
        have e30 : M6 598 90 = v1 + 1 := ((w6_6 90 (zne rfl) (zne rfl) (zne rfl) (zne rfl) (zne rfl) (zne rfl) (zne rfl)).trans (ju_same _ _ _ _))
        have e31 : M6 659 v1 = 0 := ((w6_5 659 v1 (nne rfl)).trans ((ju_c _ _ (by decide)).trans ((ju_c _ _ (by decide)).trans (ju_same _ _ _ _))))
        refine jr.pick (ls := [_, _]) [0, 1] rfl rfl ?_
        exact r_deed_L112 q M6 w hI_M6 hH_M6 hS_M6  (fun a i f598 f659 f660 f661 f662 f663 f664 f665 f666 f667 f668 f669 => ((w6_5 a i f598).trans ((ju_c _ _ f598).trans ((ju_c _ _ f660).trans ((ju_c _ _ f659).trans (hF_M a i f598 f659 f660 f661 f662 f663 f664 f665 f666 f667 f668 f669)))))) (fun i g73 g74 g75 g76 g77 g78 g79 g80 g81 g89 g90 g96 g100 g102 g107 => ((w6_6 i g73 g74 g75 g76 g77 g78 g79).trans ((ju_i _ _ g90).trans ((ju_c _ _ (by decide)).trans ((ju_c _ _ (by decide)).trans (hG_M i g73 g74 g75 g76 g77 g78 g79 g80 g81 g89 g90 g96 g100 g102 g107)))))) (by omega) hX hA (by rw [e18] <;> omega) (by rw [e20, e21] <;> omega) (by rw [e22] <;> omega) (by rw [e23, e24] <;> omega) (by rw [e25] <;> omega) (by rw [e27] <;> omega) (by rw [e28, e29] <;> omega) (by omega) (by rw [e20] <;> omega) (by rw [e30]; exact ⟨by omega, by rw [show v1 + 1 - 1 = v1 by omega]; exact e31⟩)
      · refine jr.iload_n rfl rfl ?_
        refine jr.bipush rfl (jbp _ (nlt rfl)) ?_
        refine jr.icmp_ne rfl rfl (by first | (refine rgb (by assumption) ?_; exact rfl) | omega) (rgl rfl) (fun h109 => ?_) (fun h109 => ?_)
        · refine jr.iload_n rfl rfl ?_
          refine jr.bipush rfl (jbp _ (nlt rfl)) ?_
          refine jr.icmp_le rfl rfl (by first | (refine rgb (by assumption) ?_; exact rfl) | omega) (rgl rfl) (fun h183 => ?_) (fun h183 => ?_)
          · have e32 : M6 598 72 = v8 := ((w6_6 72 (zne rfl) (zne rfl) (zne rfl) (zne rfl) (zne rfl) (zne rfl) (zne rfl)).trans ((ju_i _ _ (zne (by decide))).trans ((ju_c _ _ (by decide)).trans ((ju_c _ _ (by decide)).trans e8))))
            obtain ⟨v34, e34⟩ : ∃ z, M6 598 73 = z := ⟨_, rfl⟩
            have b34 : 0 ≤ v34 ∧ v34 ≤ 1600 := by rw [← e34]; exact hI_M6 598 73 (Nat.le_of_ble_eq_true rfl)
            obtain ⟨v36, e36⟩ : ∃ z, M6 598 74 = z := ⟨_, rfl⟩
            have b36 : 0 ≤ v36 ∧ v36 ≤ 4 := by rw [← e36]; exact hI_M6 598 74 (Nat.le_of_ble_eq_true rfl)
            obtain ⟨v38, e38⟩ : ∃ z, M6 598 79 = z := ⟨_, rfl⟩
            have b38 : 0 ≤ v38 ∧ v38 ≤ 255 := by rw [← e38]; exact hI_M6 598 79 (Nat.le_of_ble_eq_true rfl)
            obtain ⟨v40, e40⟩ : ∃ z, M 598 80 = z := ⟨_, rfl⟩
            have b40 : 0 ≤ v40 ∧ v40 ≤ 7 := by rw [← e40]; exact hI_M 598 80 (Nat.le_of_ble_eq_true rfl)
            have e41 : M6 598 80 = v40 := ((w6_6 80 (zne rfl) (zne rfl) (zne rfl) (zne rfl) (zne rfl) (zne rfl) (zne rfl)).trans ((ju_i _ _ (zne (by decide))).trans ((ju_c _ _ (by decide)).trans ((ju_c _ _ (by decide)).trans e40))))
            have e43 : M6 598 89 = v12 := ((w6_6 89 (zne rfl) (zne rfl) (zne rfl) (zne rfl) (zne rfl) (zne rfl) (zne rfl)).trans ((ju_i _ _ (zne (by decide))).trans ((ju_c _ _ (by decide)).trans ((ju_c _ _ (by decide)).trans e12))))
            have e45 : M6 598 90 = v1 + 1 := ((w6_6 90 (zne rfl) (zne rfl) (zne rfl) (zne rfl) (zne rfl) (zne rfl) (zne rfl)).trans (ju_same _ _ _ _))
            obtain ⟨v47, e47⟩ : ∃ z, M 598 96 = z := ⟨_, rfl⟩
            have b47 : 0 ≤ v47 ∧ v47 ≤ 300 := by rw [← e47]; exact hI_M 598 96 (Nat.le_of_ble_eq_true rfl)
            have e48 : M6 598 96 = v47 := ((w6_6 96 (zne rfl) (zne rfl) (zne rfl) (zne rfl) (zne rfl) (zne rfl) (zne rfl)).trans ((ju_i _ _ (zne (by decide))).trans ((ju_c _ _ (by decide)).trans ((ju_c _ _ (by decide)).trans e47))))
            have e50 : M6 598 100 = v2 := ((w6_6 100 (zne rfl) (zne rfl) (zne rfl) (zne rfl) (zne rfl) (zne rfl) (zne rfl)).trans ((ju_i _ _ (zne (by decide))).trans ((ju_c _ _ (by decide)).trans ((ju_c _ _ (by decide)).trans e2))))
            have e52 : M6 598 107 = v4 := ((w6_6 107 (zne rfl) (zne rfl) (zne rfl) (zne rfl) (zne rfl) (zne rfl) (zne rfl)).trans ((ju_i _ _ (zne (by decide))).trans ((ju_c _ _ (by decide)).trans ((ju_c _ _ (by decide)).trans e4))))
            obtain ⟨v54, e54⟩ : ∃ z, M 598 88 = z := ⟨_, rfl⟩
            have b54 : 0 ≤ v54 ∧ v54 ≤ 16 := by rw [← e54]; exact hI_M 598 88 (Nat.le_of_ble_eq_true rfl)
            have e55 : M6 598 88 = v54 := ((w6_6 88 (zne rfl) (zne rfl) (zne rfl) (zne rfl) (zne rfl) (zne rfl) (zne rfl)).trans ((ju_i _ _ (zne (by decide))).trans ((ju_c _ _ (by decide)).trans ((ju_c _ _ (by decide)).trans e54))))
            refine jr.pick (ls := [_, _]) [0, 1] rfl rfl ?_
            exact r_deed_L230 q M6 w hI_M6 hH_M6 hS_M6  (fun a i f598 f659 f660 f661 f662 f663 f664 f665 f666 f667 f668 f669 => ((w6_5 a i f598).trans ((ju_c _ _ f598).trans ((ju_c _ _ f660).trans ((ju_c _ _ f659).trans (hF_M a i f598 f659 f660 f661 f662 f663 f664 f665 f666 f667 f668 f669)))))) (fun i g73 g74 g75 g76 g77 g78 g79 g80 g81 g89 g90 g96 g100 g102 g107 => ((w6_6 i g73 g74 g75 g76 g77 g78 g79).trans ((ju_i _ _ g90).trans ((ju_c _ _ (by decide)).trans ((ju_c _ _ (by decide)).trans (hG_M i g73 g74 g75 g76 g77 g78 g79 g80 g81 g89 g90 g96 g100 g102 g107)))))) (by omega) (Or.inr ⟨⟨by omega, by have dl := dl_deed (w := w) (by omega); rw [dl.2.2.2 (by omega)]; exact hX, by omega, by omega, by omega, by omega⟩, by omega, Or.inl ⟨by omega, by omega, hA⟩⟩) (by rw [e34, e32] <;> omega) (by omega) (by omega) (by rw [e52] <;> omega) (by rw [e55] <;> omega) (by rw [e52] <;> omega)
          · refine jr.iconst rfl ?_
            refine jr.istore_n (ls' := [_, _, _]) rfl (nlt rfl) rfl ?_
            have e56 : M6 598 72 = v8 := ((w6_6 72 (zne rfl) (zne rfl) (zne rfl) (zne rfl) (zne rfl) (zne rfl) (zne rfl)).trans ((ju_i _ _ (zne (by decide))).trans ((ju_c _ _ (by decide)).trans ((ju_c _ _ (by decide)).trans e8))))
            obtain ⟨v58, e58⟩ : ∃ z, M6 598 73 = z := ⟨_, rfl⟩
            have b58 : 0 ≤ v58 ∧ v58 ≤ 1600 := by rw [← e58]; exact hI_M6 598 73 (Nat.le_of_ble_eq_true rfl)
            obtain ⟨v60, e60⟩ : ∃ z, M6 598 74 = z := ⟨_, rfl⟩
            have b60 : 0 ≤ v60 ∧ v60 ≤ 4 := by rw [← e60]; exact hI_M6 598 74 (Nat.le_of_ble_eq_true rfl)
            obtain ⟨v62, e62⟩ : ∃ z, M6 598 79 = z := ⟨_, rfl⟩
            have b62 : 0 ≤ v62 ∧ v62 ≤ 255 := by rw [← e62]; exact hI_M6 598 79 (Nat.le_of_ble_eq_true rfl)
            obtain ⟨v64, e64⟩ : ∃ z, M 598 80 = z := ⟨_, rfl⟩
            have b64 : 0 ≤ v64 ∧ v64 ≤ 7 := by rw [← e64]; exact hI_M 598 80 (Nat.le_of_ble_eq_true rfl)
            have e65 : M6 598 80 = v64 := ((w6_6 80 (zne rfl) (zne rfl) (zne rfl) (zne rfl) (zne rfl) (zne rfl) (zne rfl)).trans ((ju_i _ _ (zne (by decide))).trans ((ju_c _ _ (by decide)).trans ((ju_c _ _ (by decide)).trans e64))))
            have e67 : M6 598 89 = v12 := ((w6_6 89 (zne rfl) (zne rfl) (zne rfl) (zne rfl) (zne rfl) (zne rfl) (zne rfl)).trans ((ju_i _ _ (zne (by decide))).trans ((ju_c _ _ (by decide)).trans ((ju_c _ _ (by decide)).trans e12))))
            have e69 : M6 598 90 = v1 + 1 := ((w6_6 90 (zne rfl) (zne rfl) (zne rfl) (zne rfl) (zne rfl) (zne rfl) (zne rfl)).trans (ju_same _ _ _ _))
            obtain ⟨v71, e71⟩ : ∃ z, M 598 96 = z := ⟨_, rfl⟩
            have b71 : 0 ≤ v71 ∧ v71 ≤ 300 := by rw [← e71]; exact hI_M 598 96 (Nat.le_of_ble_eq_true rfl)
            have e72 : M6 598 96 = v71 := ((w6_6 96 (zne rfl) (zne rfl) (zne rfl) (zne rfl) (zne rfl) (zne rfl) (zne rfl)).trans ((ju_i _ _ (zne (by decide))).trans ((ju_c _ _ (by decide)).trans ((ju_c _ _ (by decide)).trans e71))))
            have e74 : M6 598 100 = v2 := ((w6_6 100 (zne rfl) (zne rfl) (zne rfl) (zne rfl) (zne rfl) (zne rfl) (zne rfl)).trans ((ju_i _ _ (zne (by decide))).trans ((ju_c _ _ (by decide)).trans ((ju_c _ _ (by decide)).trans e2))))
            have e76 : M6 598 107 = v4 := ((w6_6 107 (zne rfl) (zne rfl) (zne rfl) (zne rfl) (zne rfl) (zne rfl) (zne rfl)).trans ((ju_i _ _ (zne (by decide))).trans ((ju_c _ _ (by decide)).trans ((ju_c _ _ (by decide)).trans e4))))
            obtain ⟨v78, e78⟩ : ∃ z, M 598 88 = z := ⟨_, rfl⟩
            have b78 : 0 ≤ v78 ∧ v78 ≤ 16 := by rw [← e78]; exact hI_M 598 88 (Nat.le_of_ble_eq_true rfl)
            have e79 : M6 598 88 = v78 := ((w6_6 88 (zne rfl) (zne rfl) (zne rfl) (zne rfl) (zne rfl) (zne rfl) (zne rfl)).trans ((ju_i _ _ (zne (by decide))).trans ((ju_c _ _ (by decide)).trans ((ju_c _ _ (by decide)).trans e78))))
            refine jr.pick (ls := [_, _, _]) [0, 1, 2] rfl rfl ?_
            exact r_deed_L188 q 5 M6 0 w hI_M6 hH_M6 hS_M6  (fun a i f598 f659 f660 f661 f662 f663 f664 f665 f666 f667 f668 f669 => ((w6_5 a i f598).trans ((ju_c _ _ f598).trans ((ju_c _ _ f660).trans ((ju_c _ _ f659).trans (hF_M a i f598 f659 f660 f661 f662 f663 f664 f665 f666 f667 f668 f669)))))) (fun i g73 g74 g75 g76 g77 g78 g79 g80 g81 g89 g90 g96 g100 g102 g107 => ((w6_6 i g73 g74 g75 g76 g77 g78 g79).trans ((ju_i _ _ g90).trans ((ju_c _ _ (by decide)).trans ((ju_c _ _ (by decide)).trans (hG_M i g73 g74 g75 g76 g77 g78 g79 g80 g81 g89 g90 g96 g100 g102 g107)))))) (by omega) (by omega) (Or.inr ⟨⟨by omega, hX, by omega, by omega, by omega, by omega⟩, hA, by omega⟩) (by rw [e58, e56] <;> omega) (by omega) (by omega) (by rw [e76] <;> omega) (by rw [e79] <;> omega) (by omega) (by rw [e76] <;> omega) (by omega)
        · obtain ⟨v80, e80⟩ : ∃ z, M 598 80 = z := ⟨_, rfl⟩
          have b80 : 0 ≤ v80 ∧ v80 ≤ 7 := by rw [← e80]; exact hI_M 598 80 (Nat.le_of_ble_eq_true rfl)
          have e81 : M6 598 80 = v80 := ((w6_6 80 (zne rfl) (zne rfl) (zne rfl) (zne rfl) (zne rfl) (zne rfl) (zne rfl)).trans ((ju_i _ _ (zne (by decide))).trans ((ju_c _ _ (by decide)).trans ((ju_c _ _ (by decide)).trans e80))))
          obtain ⟨v82, e82⟩ : ∃ z, M 598 96 = z := ⟨_, rfl⟩
          have b82 : 0 ≤ v82 ∧ v82 ≤ 300 := by rw [← e82]; exact hI_M 598 96 (Nat.le_of_ble_eq_true rfl)
          have e83 : M6 598 96 = v82 := ((w6_6 96 (zne rfl) (zne rfl) (zne rfl) (zne rfl) (zne rfl) (zne rfl) (zne rfl)).trans ((ju_i _ _ (zne (by decide))).trans ((ju_c _ _ (by decide)).trans ((ju_c _ _ (by decide)).trans e82))))
          have e84 : M6 598 89 = v12 := ((w6_6 89 (zne rfl) (zne rfl) (zne rfl) (zne rfl) (zne rfl) (zne rfl) (zne rfl)).trans ((ju_i _ _ (zne (by decide))).trans ((ju_c _ _ (by decide)).trans ((ju_c _ _ (by decide)).trans e12))))
          have e85 : M6 598 100 = v2 := ((w6_6 100 (zne rfl) (zne rfl) (zne rfl) (zne rfl) (zne rfl) (zne rfl) (zne rfl)).trans ((ju_i _ _ (zne (by decide))).trans ((ju_c _ _ (by decide)).trans ((ju_c _ _ (by decide)).trans e2))))
          obtain ⟨v86, e86⟩ : ∃ z, M6 598 73 = z := ⟨_, rfl⟩
          have b86 : 0 ≤ v86 ∧ v86 ≤ 1600 := by rw [← e86]; exact hI_M6 598 73 (Nat.le_of_ble_eq_true rfl)
          have e87 : M6 598 72 = v8 := ((w6_6 72 (zne rfl) (zne rfl) (zne rfl) (zne rfl) (zne rfl) (zne rfl) (zne rfl)).trans ((ju_i _ _ (zne (by decide))).trans ((ju_c _ _ (by decide)).trans ((ju_c _ _ (by decide)).trans e8))))
          have e88 : M6 598 107 = v4 := ((w6_6 107 (zne rfl) (zne rfl) (zne rfl) (zne rfl) (zne rfl) (zne rfl) (zne rfl)).trans ((ju_i _ _ (zne (by decide))).trans ((ju_c _ _ (by decide)).trans ((ju_c _ _ (by decide)).trans e4))))
          obtain ⟨v89, e89⟩ : ∃ z, M 598 88 = z := ⟨_, rfl⟩
          have b89 : 0 ≤ v89 ∧ v89 ≤ 16 := by rw [← e89]; exact hI_M 598 88 (Nat.le_of_ble_eq_true rfl)
          have e90 : M6 598 88 = v89 := ((w6_6 88 (zne rfl) (zne rfl) (zne rfl) (zne rfl) (zne rfl) (zne rfl) (zne rfl)).trans ((ju_i _ _ (zne (by decide))).trans ((ju_c _ _ (by decide)).trans ((ju_c _ _ (by decide)).trans e89))))
          obtain ⟨v91, e91⟩ : ∃ z, M6 598 74 = z := ⟨_, rfl⟩
          have b91 : 0 ≤ v91 ∧ v91 ≤ 4 := by rw [← e91]; exact hI_M6 598 74 (Nat.le_of_ble_eq_true rfl)
          obtain ⟨v92, e92⟩ : ∃ z, M6 598 79 = z := ⟨_, rfl⟩
          have b92 : 0 ≤ v92 ∧ v92 ≤ 255 := by rw [← e92]; exact hI_M6 598 79 (Nat.le_of_ble_eq_true rfl)
          have e93 : M6 598 90 = v1 + 1 := ((w6_6 90 (zne rfl) (zne rfl) (zne rfl) (zne rfl) (zne rfl) (zne rfl) (zne rfl)).trans (ju_same _ _ _ _))
          have e94 : M6 659 v1 = 0 := ((w6_5 659 v1 (nne rfl)).trans ((ju_c _ _ (by decide)).trans ((ju_c _ _ (by decide)).trans (ju_same _ _ _ _))))
          refine jr.pick (ls := [_, _]) [0, 1] rfl rfl ?_
          exact r_deed_L112 q M6 w hI_M6 hH_M6 hS_M6  (fun a i f598 f659 f660 f661 f662 f663 f664 f665 f666 f667 f668 f669 => ((w6_5 a i f598).trans ((ju_c _ _ f598).trans ((ju_c _ _ f660).trans ((ju_c _ _ f659).trans (hF_M a i f598 f659 f660 f661 f662 f663 f664 f665 f666 f667 f668 f669)))))) (fun i g73 g74 g75 g76 g77 g78 g79 g80 g81 g89 g90 g96 g100 g102 g107 => ((w6_6 i g73 g74 g75 g76 g77 g78 g79).trans ((ju_i _ _ g90).trans ((ju_c _ _ (by decide)).trans ((ju_c _ _ (by decide)).trans (hG_M i g73 g74 g75 g76 g77 g78 g79 g80 g81 g89 g90 g96 g100 g102 g107)))))) (by omega) hX hA (by rw [e81] <;> omega) (by rw [e83, e84] <;> omega) (by rw [e85] <;> omega) (by rw [e86, e87] <;> omega) (by rw [e88] <;> omega) (by rw [e90] <;> omega) (by rw [e91, e92] <;> omega) (by omega) (by rw [e83] <;> omega) (by rw [e93]; exact ⟨by omega, by rw [show v1 + 1 - 1 = v1 by omega]; exact e94⟩)
    · obtain ⟨v95, e95⟩ : ∃ z, M 598 80 = z := ⟨_, rfl⟩
      have b95 : 0 ≤ v95 ∧ v95 ≤ 7 := by rw [← e95]; exact hI_M 598 80 (Nat.le_of_ble_eq_true rfl)
      have e96 : M6 598 80 = v95 := ((w6_6 80 (zne rfl) (zne rfl) (zne rfl) (zne rfl) (zne rfl) (zne rfl) (zne rfl)).trans ((ju_i _ _ (zne (by decide))).trans ((ju_c _ _ (by decide)).trans ((ju_c _ _ (by decide)).trans e95))))
      obtain ⟨v97, e97⟩ : ∃ z, M 598 96 = z := ⟨_, rfl⟩
      have b97 : 0 ≤ v97 ∧ v97 ≤ 300 := by rw [← e97]; exact hI_M 598 96 (Nat.le_of_ble_eq_true rfl)
      have e98 : M6 598 96 = v97 := ((w6_6 96 (zne rfl) (zne rfl) (zne rfl) (zne rfl) (zne rfl) (zne rfl) (zne rfl)).trans ((ju_i _ _ (zne (by decide))).trans ((ju_c _ _ (by decide)).trans ((ju_c _ _ (by decide)).trans e97))))
      have e99 : M6 598 89 = v12 := ((w6_6 89 (zne rfl) (zne rfl) (zne rfl) (zne rfl) (zne rfl) (zne rfl) (zne rfl)).trans ((ju_i _ _ (zne (by decide))).trans ((ju_c _ _ (by decide)).trans ((ju_c _ _ (by decide)).trans e12))))
      have e100 : M6 598 100 = v2 := ((w6_6 100 (zne rfl) (zne rfl) (zne rfl) (zne rfl) (zne rfl) (zne rfl) (zne rfl)).trans ((ju_i _ _ (zne (by decide))).trans ((ju_c _ _ (by decide)).trans ((ju_c _ _ (by decide)).trans e2))))
      obtain ⟨v101, e101⟩ : ∃ z, M6 598 73 = z := ⟨_, rfl⟩
      have b101 : 0 ≤ v101 ∧ v101 ≤ 1600 := by rw [← e101]; exact hI_M6 598 73 (Nat.le_of_ble_eq_true rfl)
      have e102 : M6 598 72 = v8 := ((w6_6 72 (zne rfl) (zne rfl) (zne rfl) (zne rfl) (zne rfl) (zne rfl) (zne rfl)).trans ((ju_i _ _ (zne (by decide))).trans ((ju_c _ _ (by decide)).trans ((ju_c _ _ (by decide)).trans e8))))
      have e103 : M6 598 107 = v4 := ((w6_6 107 (zne rfl) (zne rfl) (zne rfl) (zne rfl) (zne rfl) (zne rfl) (zne rfl)).trans ((ju_i _ _ (zne (by decide))).trans ((ju_c _ _ (by decide)).trans ((ju_c _ _ (by decide)).trans e4))))
      obtain ⟨v104, e104⟩ : ∃ z, M 598 88 = z := ⟨_, rfl⟩
      have b104 : 0 ≤ v104 ∧ v104 ≤ 16 := by rw [← e104]; exact hI_M 598 88 (Nat.le_of_ble_eq_true rfl)
      have e105 : M6 598 88 = v104 := ((w6_6 88 (zne rfl) (zne rfl) (zne rfl) (zne rfl) (zne rfl) (zne rfl) (zne rfl)).trans ((ju_i _ _ (zne (by decide))).trans ((ju_c _ _ (by decide)).trans ((ju_c _ _ (by decide)).trans e104))))
      obtain ⟨v106, e106⟩ : ∃ z, M6 598 74 = z := ⟨_, rfl⟩
      have b106 : 0 ≤ v106 ∧ v106 ≤ 4 := by rw [← e106]; exact hI_M6 598 74 (Nat.le_of_ble_eq_true rfl)
      obtain ⟨v107, e107⟩ : ∃ z, M6 598 79 = z := ⟨_, rfl⟩
      have b107 : 0 ≤ v107 ∧ v107 ≤ 255 := by rw [← e107]; exact hI_M6 598 79 (Nat.le_of_ble_eq_true rfl)
      refine jr.pick (ls := [_]) [1] rfl rfl ?_
      exact r_deed_L78 q M6  hI_M6 hH_M6 hS_M6  (fun a i f598 f659 f660 f661 f662 f663 f664 f665 f666 f667 f668 f669 => ((w6_5 a i f598).trans ((ju_c _ _ f598).trans ((ju_c _ _ f660).trans ((ju_c _ _ f659).trans (hF_M a i f598 f659 f660 f661 f662 f663 f664 f665 f666 f667 f668 f669)))))) (fun i g73 g74 g75 g76 g77 g78 g79 g80 g81 g89 g90 g96 g100 g102 g107 => ((w6_6 i g73 g74 g75 g76 g77 g78 g79).trans ((ju_i _ _ g90).trans ((ju_c _ _ (by decide)).trans ((ju_c _ _ (by decide)).trans (hG_M i g73 g74 g75 g76 g77 g78 g79 g80 g81 g89 g90 g96 g100 g102 g107))))))  hX hA (by rw [e96] <;> omega) (by rw [e98, e99] <;> omega) (by rw [e100] <;> omega) (by rw [e101, e102] <;> omega) (by rw [e103] <;> omega) (by rw [e105] <;> omega) (by rw [e106, e107] <;> omega) (by omega)
theorem r_deed {A : Nat → Option (Nat × (Nat → Int32))} {Q : Option Value → jm → Prop} {M : jm} (hI_M : RI M) (hH_M : RH M) (hS_M : RF M) (p0 : DS M 0) (p1 : 1 ≤ M 598 107) (p2 : 1 ≤ M 598 88) (q : ∀ (M' : jm), RI M' → RH M' → RF M' → (BT M' ∨ (DS M' 0 ∧ TK M' < TK M)) → TK M' ≤ TK M → M' 598 73 ≤ M' 598 72 → (M' 598 80 ≠ 0 ∨ TK M' < TK M) → M 598 107 ≤ M' 598 107 → (∀ (a : Nat) (i : Int), a ≠ 598 → a ≠ 659 → a ≠ 660 → a ≠ 661 → a ≠ 662 → a ≠ 663 → a ≠ 664 → a ≠ 665 → a ≠ 666 → a ≠ 667 → a ≠ 668 → a ≠ 669 → M' a i = M a i) → (∀ (i : Int), i ≠ 73 → i ≠ 74 → i ≠ 75 → i ≠ 76 → i ≠ 77 → i ≠ 78 → i ≠ 79 → i ≠ 80 → i ≠ 81 → i ≠ 89 → i ≠ 90 → i ≠ 96 → i ≠ 100 → i ≠ 102 → i ≠ 107 → M' 598 i = M 598 i) → Q none M') : jc A 8 367 [.ref (598)] M Q := by
  obtain ⟨ds1, ds2, ds3, ds4, ds5, ds6, ds7, ds8, ds9⟩ := id p0
  have hX := ds2
  have hA := ds8
  have dpx := XS.dep ds2
  have sl := XS.sgle ds2
  have bM_107 : (0 : Int) ≤ M 598 107 ∧ M 598 107 ≤ 16 := hI_M 598 107 (Nat.le_of_ble_eq_true rfl)
  have bM_73 : (0 : Int) ≤ M 598 73 ∧ M 598 73 ≤ 1600 := hI_M 598 73 (Nat.le_of_ble_eq_true rfl)
  have bM_88 : (0 : Int) ≤ M 598 88 ∧ M 598 88 ≤ 16 := hI_M 598 88 (Nat.le_of_ble_eq_true rfl)
  have bM_100 : (0 : Int) ≤ M 598 100 ∧ M 598 100 ≤ 13 := hI_M 598 100 (Nat.le_of_ble_eq_true rfl)
  refine jc_of (m := xm_367) rfl (Nat.le_of_ble_eq_true rfl) rfl ?_
  refine jr.aload_n rfl rfl ?_
  obtain ⟨v1, e1⟩ : ∃ z, M 598 76 = z := ⟨_, rfl⟩
  have b1 : (-1) ≤ v1 ∧ v1 ≤ 68 := by rw [← e1]; exact hI_M 598 76 (Nat.le_of_ble_eq_true rfl)
  refine jr.getf (i := 76) (x := v1) (v := .int (Int32.ofInt (v1))) rfl rfl (nlt rfl) rfl (nlt rfl) rfl rfl e1 rfl ?_
  refine jr.istore_n (ls' := [_, _]) rfl (nlt rfl) rfl ?_
  refine jr.aload_n rfl rfl ?_
  refine jr.iconst rfl ?_
  refine jr_v rfl rfl (Or.inl rfl) rfl rfl (nlt rfl) rfl ⟨rfl, Nat.le_of_ble_eq_true rfl, Nat.le_of_ble_eq_true rfl⟩ rfl (jc.deep (c_isWord hI_M (by omega) (fun t7_0 t7_1 => ?_) (fun f7_0 => ?_)) (Nat.le_of_ble_eq_true rfl))
  · refine jr.if_ne rfl rfl (by first | exact rgl rfl | omega) (fun _ => ?_) (fun h => absurd (by decide) h)
    refine jr.iconst rfl ?_
    refine jr.goto rfl rfl ?_
    refine jr.istore_n (ls' := [_, _, _]) rfl (nlt rfl) rfl ?_
    refine jr.iload_n rfl rfl ?_
    refine jr.if_ne rfl rfl (by first | exact rgl rfl | omega) (fun _ => ?_) (fun h => absurd (by decide) h)
    refine jr.aload_n rfl rfl ?_
    obtain ⟨v3, e3⟩ : ∃ z, M 598 89 = z := ⟨_, rfl⟩
    have b3 : 0 ≤ v3 ∧ v3 ≤ 301 := by rw [← e3]; exact hI_M 598 89 (Nat.le_of_ble_eq_true rfl)
    obtain ⟨v4, e4⟩ : ∃ z, M 598 73 = z := ⟨_, rfl⟩
    have b4 : 0 ≤ v4 ∧ v4 ≤ 1600 := by rw [← e4]; exact hI_M 598 73 (Nat.le_of_ble_eq_true rfl)
    obtain ⟨v6, e6⟩ : ∃ z, M 598 74 = z := ⟨_, rfl⟩
    have b6 : 0 ≤ v6 ∧ v6 ≤ 4 := by rw [← e6]; exact hI_M 598 74 (Nat.le_of_ble_eq_true rfl)
    obtain ⟨v9, e9⟩ : ∃ z, M 598 100 = z := ⟨_, rfl⟩
    have b9 : 0 ≤ v9 ∧ v9 ≤ 13 := by rw [← e9]; exact hI_M 598 100 (Nat.le_of_ble_eq_true rfl)
    refine jr_v rfl rfl (Or.inl rfl) rfl rfl (nlt rfl) rfl ⟨rfl, Nat.le_of_ble_eq_true rfl, Nat.le_of_ble_eq_true rfl⟩ rfl (jc.deep (r_node hI_M hH_M hS_M   (by rw [e3]; omega) (fun M2 hI_M2 hH_M2 hS_M2  w2_0 w2_1 w2_2 w2_3 w2_4 w2_5 => ?_)) (Nat.le_of_ble_eq_true rfl))
    have tk2 : TK M2 = TK M := TK.fr (w2_5 73 (zne rfl) (zne rfl) (zne rfl)) (w2_5 74 (zne rfl) (zne rfl) (zne rfl))
    have x2_73 := w2_5 73 (zne rfl) (zne rfl) (zne rfl)
    have x2_74 := w2_5 74 (zne rfl) (zne rfl) (zne rfl)
    have x2_100 := w2_5 100 (zne rfl) (zne rfl) (zne rfl)
    have hX := XS.fr2 hX w2_4 (w2_5 88 (zne rfl) (zne rfl) (zne rfl)) (w2_5 90 (zne rfl) (zne rfl) (zne rfl)) (w2_5 101 (zne rfl) (zne rfl) (zne rfl)) (w2_5 107 (zne rfl) (zne rfl) (zne rfl)) (k' := 2 + 2 + 2) (d' := 0) (z' := 0) (by omega) (by omega) (by omega) (by omega)
    have hA := AK.cp hA (CP.f (CP.rfl _) (fun i => w2_4 659 i (nne rfl)) (w2_5 90 (zne rfl) (zne rfl) (zne rfl))) (fun i => w2_4 663 i (nne rfl)) (w2_5 96 (zne rfl) (zne rfl) (zne rfl))
    refine jr.aload_n rfl rfl ?_
    refine jr_v rfl rfl (Or.inl rfl) rfl rfl (nlt rfl) rfl ⟨rfl, Nat.le_of_ble_eq_true rfl, Nat.le_of_ble_eq_true rfl⟩ rfl (jc.deep (c_good hI_M2  (fun t56_0 => ?_) (fun f56_0 => ?_)) (Nat.le_of_ble_eq_true rfl))
    · have w2_1r := Classical.byContradiction (fun z => w2_1 z t56_0)
      have w2_2r := w2_2 t56_0
      clear w2_1 w2_2 w2_3
      refine jr.if_ne rfl rfl (by first | exact rgl rfl | omega) (fun _ => ?_) (fun h => absurd (by decide) h)
      obtain ⟨v11, e11⟩ : ∃ z, M2 598 80 = z := ⟨_, rfl⟩
      have b11 : 0 ≤ v11 ∧ v11 ≤ 7 := by rw [← e11]; exact hI_M2 598 80 (Nat.le_of_ble_eq_true rfl)
      obtain ⟨v12, e12⟩ : ∃ z, M 598 96 = z := ⟨_, rfl⟩
      have b12 : 0 ≤ v12 ∧ v12 ≤ 300 := by rw [← e12]; exact hI_M 598 96 (Nat.le_of_ble_eq_true rfl)
      have e13 : M2 598 96 = v12 := ((w2_5 96 (zne rfl) (zne rfl) (zne rfl)).trans e12)
      obtain ⟨v14, e14⟩ : ∃ z, M2 598 89 = z := ⟨_, rfl⟩
      have b14 : 0 ≤ v14 ∧ v14 ≤ 301 := by rw [← e14]; exact hI_M2 598 89 (Nat.le_of_ble_eq_true rfl)
      have e15 : M2 598 100 = v9 := ((w2_5 100 (zne rfl) (zne rfl) (zne rfl)).trans e9)
      have e16 : M2 598 73 = v4 := ((w2_5 73 (zne rfl) (zne rfl) (zne rfl)).trans e4)
      obtain ⟨v17, e17⟩ : ∃ z, M 598 72 = z := ⟨_, rfl⟩
      have b17 : 0 ≤ v17 ∧ v17 ≤ 1600 := by rw [← e17]; exact hI_M 598 72 (Nat.le_of_ble_eq_true rfl)
      have e18 : M2 598 72 = v17 := ((w2_5 72 (zne rfl) (zne rfl) (zne rfl)).trans e17)
      obtain ⟨v19, e19⟩ : ∃ z, M 598 107 = z := ⟨_, rfl⟩
      have b19 : 0 ≤ v19 ∧ v19 ≤ 16 := by rw [← e19]; exact hI_M 598 107 (Nat.le_of_ble_eq_true rfl)
      have e20 : M2 598 107 = v19 := ((w2_5 107 (zne rfl) (zne rfl) (zne rfl)).trans e19)
      obtain ⟨v21, e21⟩ : ∃ z, M 598 88 = z := ⟨_, rfl⟩
      have b21 : 0 ≤ v21 ∧ v21 ≤ 16 := by rw [← e21]; exact hI_M 598 88 (Nat.le_of_ble_eq_true rfl)
      have e22 : M2 598 88 = v21 := ((w2_5 88 (zne rfl) (zne rfl) (zne rfl)).trans e21)
      have e23 : M2 598 74 = v6 := ((w2_5 74 (zne rfl) (zne rfl) (zne rfl)).trans e6)
      obtain ⟨v24, e24⟩ : ∃ z, M 598 79 = z := ⟨_, rfl⟩
      have b24 : 0 ≤ v24 ∧ v24 ≤ 255 := by rw [← e24]; exact hI_M 598 79 (Nat.le_of_ble_eq_true rfl)
      have e25 : M2 598 79 = v24 := ((w2_5 79 (zne rfl) (zne rfl) (zne rfl)).trans e24)
      refine jr.pick (ls := [_, _]) [1, 2] rfl rfl ?_
      exact r_deed_L63 q M2 v1 hI_M2 hH_M2 hS_M2  (fun a i f598 f659 f660 f661 f662 f663 f664 f665 f666 f667 f668 f669 => ((w2_4 a i f598).trans rfl)) (fun i g73 g74 g75 g76 g77 g78 g79 g80 g81 g89 g90 g96 g100 g102 g107 => ((w2_5 i g80 g81 g89).trans rfl)) (by omega) hX hA (by rw [e11] <;> omega) (by rw [e13, e14] <;> omega) (by rw [e15] <;> omega) (by rw [e16, e18] <;> omega) (by rw [e20] <;> omega) (by rw [e22] <;> omega) (by rw [e23, e25] <;> omega) (by omega) (by rw [e23] <;> omega) (by omega)
    · refine jr.if_ne rfl rfl (by first | exact rgl rfl | omega) (fun h => absurd h (by decide)) (fun _ => ?_)
      obtain ⟨v26, e26⟩ : ∃ z, M 598 72 = z := ⟨_, rfl⟩
      have b26 : 0 ≤ v26 ∧ v26 ≤ 1600 := by rw [← e26]; exact hI_M 598 72 (Nat.le_of_ble_eq_true rfl)
      have e27 : M2 598 72 = v26 := ((w2_5 72 (zne rfl) (zne rfl) (zne rfl)).trans e26)
      have e29 : M2 598 73 = v4 := ((w2_5 73 (zne rfl) (zne rfl) (zne rfl)).trans e4)
      have e31 : M2 598 74 = v6 := ((w2_5 74 (zne rfl) (zne rfl) (zne rfl)).trans e6)
      obtain ⟨v33, e33⟩ : ∃ z, M 598 79 = z := ⟨_, rfl⟩
      have b33 : 0 ≤ v33 ∧ v33 ≤ 255 := by rw [← e33]; exact hI_M 598 79 (Nat.le_of_ble_eq_true rfl)
      have e34 : M2 598 79 = v33 := ((w2_5 79 (zne rfl) (zne rfl) (zne rfl)).trans e33)
      obtain ⟨v36, e36⟩ : ∃ z, M2 598 80 = z := ⟨_, rfl⟩
      have b36 : 0 ≤ v36 ∧ v36 ≤ 7 := by rw [← e36]; exact hI_M2 598 80 (Nat.le_of_ble_eq_true rfl)
      obtain ⟨v38, e38⟩ : ∃ z, M2 598 89 = z := ⟨_, rfl⟩
      have b38 : 0 ≤ v38 ∧ v38 ≤ 301 := by rw [← e38]; exact hI_M2 598 89 (Nat.le_of_ble_eq_true rfl)
      obtain ⟨v40, e40⟩ : ∃ z, M 598 90 = z := ⟨_, rfl⟩
      have b40 : 0 ≤ v40 ∧ v40 ≤ 2200 := by rw [← e40]; exact hI_M 598 90 (Nat.le_of_ble_eq_true rfl)
      have e41 : M2 598 90 = v40 := ((w2_5 90 (zne rfl) (zne rfl) (zne rfl)).trans e40)
      obtain ⟨v43, e43⟩ : ∃ z, M 598 96 = z := ⟨_, rfl⟩
      have b43 : 0 ≤ v43 ∧ v43 ≤ 300 := by rw [← e43]; exact hI_M 598 96 (Nat.le_of_ble_eq_true rfl)
      have e44 : M2 598 96 = v43 := ((w2_5 96 (zne rfl) (zne rfl) (zne rfl)).trans e43)
      have e46 : M2 598 100 = v9 := ((w2_5 100 (zne rfl) (zne rfl) (zne rfl)).trans e9)
      obtain ⟨v48, e48⟩ : ∃ z, M 598 107 = z := ⟨_, rfl⟩
      have b48 : 0 ≤ v48 ∧ v48 ≤ 16 := by rw [← e48]; exact hI_M 598 107 (Nat.le_of_ble_eq_true rfl)
      have e49 : M2 598 107 = v48 := ((w2_5 107 (zne rfl) (zne rfl) (zne rfl)).trans e48)
      exact jr.vreturn rfl rfl (q _ hI_M2 hH_M2 hS_M2  (Or.inl ⟨by omega, by omega⟩) (by omega) (by omega) (by omega) (by omega) (fun a i f598 f659 f660 f661 f662 f663 f664 f665 f666 f667 f668 f669 => ((w2_4 a i f598).trans rfl)) (fun i g73 g74 g75 g76 g77 g78 g79 g80 g81 g89 g90 g96 g100 g102 g107 => ((w2_5 i g80 g81 g89).trans rfl)))
  · refine jr.if_ne rfl rfl (by first | exact rgl rfl | omega) (fun h => absurd h (by decide)) (fun _ => ?_)
    refine jr.aload_n rfl rfl ?_
    refine jr.iconst rfl ?_
    refine jr.bipush rfl (jbp _ (nlt rfl)) ?_
    refine jr_v rfl rfl (Or.inl rfl) rfl rfl (nlt rfl) rfl ⟨rfl, Nat.le_of_ble_eq_true rfl, Nat.le_of_ble_eq_true rfl⟩ rfl (jc.deep (c_isWordIn hI_M (by omega) (by omega) (fun t17_0 t17_1 t17_2 => ?_) (fun f17_0 => ?_)) (Nat.le_of_ble_eq_true rfl))
    · refine jr.if_eq rfl rfl (by first | exact rgl rfl | omega) (fun h => absurd h (by decide)) (fun _ => ?_)
      refine jr.aload_n rfl rfl ?_
      obtain ⟨v51, e51⟩ : ∃ z, M 598 101 = z := ⟨_, rfl⟩
      have b51 : 0 ≤ v51 ∧ v51 ≤ 1 := by rw [← e51]; exact hI_M 598 101 (Nat.le_of_ble_eq_true rfl)
      refine jr.getf (i := 101) (x := v51) (v := .int (Int32.ofInt (v51))) rfl rfl (nlt rfl) rfl (nlt rfl) rfl rfl e51 rfl ?_
      refine jr.if_eq rfl rfl (by first | (refine rgb (by assumption) ?_; exact rfl) | omega) (fun h27 => ?_) (fun h27 => ?_)
      · refine jr.iconst rfl ?_
        refine jr.goto rfl rfl ?_
        refine jr.istore_n (ls' := [_, _, _]) rfl (nlt rfl) rfl ?_
        refine jr.iload_n rfl rfl ?_
        refine jr.if_ne rfl rfl (by first | exact rgl rfl | omega) (fun _ => ?_) (fun h => absurd (by decide) h)
        refine jr.aload_n rfl rfl ?_
        obtain ⟨v53, e53⟩ : ∃ z, M 598 89 = z := ⟨_, rfl⟩
        have b53 : 0 ≤ v53 ∧ v53 ≤ 301 := by rw [← e53]; exact hI_M 598 89 (Nat.le_of_ble_eq_true rfl)
        obtain ⟨v54, e54⟩ : ∃ z, M 598 73 = z := ⟨_, rfl⟩
        have b54 : 0 ≤ v54 ∧ v54 ≤ 1600 := by rw [← e54]; exact hI_M 598 73 (Nat.le_of_ble_eq_true rfl)
        obtain ⟨v56, e56⟩ : ∃ z, M 598 74 = z := ⟨_, rfl⟩
        have b56 : 0 ≤ v56 ∧ v56 ≤ 4 := by rw [← e56]; exact hI_M 598 74 (Nat.le_of_ble_eq_true rfl)
        obtain ⟨v59, e59⟩ : ∃ z, M 598 100 = z := ⟨_, rfl⟩
        have b59 : 0 ≤ v59 ∧ v59 ≤ 13 := by rw [← e59]; exact hI_M 598 100 (Nat.le_of_ble_eq_true rfl)
        refine jr_v rfl rfl (Or.inl rfl) rfl rfl (nlt rfl) rfl ⟨rfl, Nat.le_of_ble_eq_true rfl, Nat.le_of_ble_eq_true rfl⟩ rfl (jc.deep (r_node hI_M hH_M hS_M   (by rw [e53]; omega) (fun M52 hI_M52 hH_M52 hS_M52  w52_0 w52_1 w52_2 w52_3 w52_4 w52_5 => ?_)) (Nat.le_of_ble_eq_true rfl))
        have tk52 : TK M52 = TK M := TK.fr (w52_5 73 (zne rfl) (zne rfl) (zne rfl)) (w52_5 74 (zne rfl) (zne rfl) (zne rfl))
        have x52_73 := w52_5 73 (zne rfl) (zne rfl) (zne rfl)
        have x52_74 := w52_5 74 (zne rfl) (zne rfl) (zne rfl)
        have x52_100 := w52_5 100 (zne rfl) (zne rfl) (zne rfl)
        have hX := XS.fr2 hX w52_4 (w52_5 88 (zne rfl) (zne rfl) (zne rfl)) (w52_5 90 (zne rfl) (zne rfl) (zne rfl)) (w52_5 101 (zne rfl) (zne rfl) (zne rfl)) (w52_5 107 (zne rfl) (zne rfl) (zne rfl)) (k' := 2 + 2 + 2) (d' := 0) (z' := 0) (by omega) (by omega) (by omega) (by omega)
        have hA := AK.cp hA (CP.f (CP.rfl _) (fun i => w52_4 659 i (nne rfl)) (w52_5 90 (zne rfl) (zne rfl) (zne rfl))) (fun i => w52_4 663 i (nne rfl)) (w52_5 96 (zne rfl) (zne rfl) (zne rfl))
        refine jr.aload_n rfl rfl ?_
        refine jr_v rfl rfl (Or.inl rfl) rfl rfl (nlt rfl) rfl ⟨rfl, Nat.le_of_ble_eq_true rfl, Nat.le_of_ble_eq_true rfl⟩ rfl (jc.deep (c_good hI_M52  (fun t56_0 => ?_) (fun f56_0 => ?_)) (Nat.le_of_ble_eq_true rfl))
        · have w52_1r := Classical.byContradiction (fun z => w52_1 z t56_0)
          have w52_2r := w52_2 t56_0
          clear w52_1 w52_2 w52_3
          refine jr.if_ne rfl rfl (by first | exact rgl rfl | omega) (fun _ => ?_) (fun h => absurd (by decide) h)
          obtain ⟨v61, e61⟩ : ∃ z, M52 598 80 = z := ⟨_, rfl⟩
          have b61 : 0 ≤ v61 ∧ v61 ≤ 7 := by rw [← e61]; exact hI_M52 598 80 (Nat.le_of_ble_eq_true rfl)
          obtain ⟨v62, e62⟩ : ∃ z, M 598 96 = z := ⟨_, rfl⟩
          have b62 : 0 ≤ v62 ∧ v62 ≤ 300 := by rw [← e62]; exact hI_M 598 96 (Nat.le_of_ble_eq_true rfl)
          have e63 : M52 598 96 = v62 := ((w52_5 96 (zne rfl) (zne rfl) (zne rfl)).trans e62)
          obtain ⟨v64, e64⟩ : ∃ z, M52 598 89 = z := ⟨_, rfl⟩
          have b64 : 0 ≤ v64 ∧ v64 ≤ 301 := by rw [← e64]; exact hI_M52 598 89 (Nat.le_of_ble_eq_true rfl)
          have e65 : M52 598 100 = v59 := ((w52_5 100 (zne rfl) (zne rfl) (zne rfl)).trans e59)
          have e66 : M52 598 73 = v54 := ((w52_5 73 (zne rfl) (zne rfl) (zne rfl)).trans e54)
          obtain ⟨v67, e67⟩ : ∃ z, M 598 72 = z := ⟨_, rfl⟩
          have b67 : 0 ≤ v67 ∧ v67 ≤ 1600 := by rw [← e67]; exact hI_M 598 72 (Nat.le_of_ble_eq_true rfl)
          have e68 : M52 598 72 = v67 := ((w52_5 72 (zne rfl) (zne rfl) (zne rfl)).trans e67)
          obtain ⟨v69, e69⟩ : ∃ z, M 598 107 = z := ⟨_, rfl⟩
          have b69 : 0 ≤ v69 ∧ v69 ≤ 16 := by rw [← e69]; exact hI_M 598 107 (Nat.le_of_ble_eq_true rfl)
          have e70 : M52 598 107 = v69 := ((w52_5 107 (zne rfl) (zne rfl) (zne rfl)).trans e69)
          obtain ⟨v71, e71⟩ : ∃ z, M 598 88 = z := ⟨_, rfl⟩
          have b71 : 0 ≤ v71 ∧ v71 ≤ 16 := by rw [← e71]; exact hI_M 598 88 (Nat.le_of_ble_eq_true rfl)
          have e72 : M52 598 88 = v71 := ((w52_5 88 (zne rfl) (zne rfl) (zne rfl)).trans e71)
          have e73 : M52 598 74 = v56 := ((w52_5 74 (zne rfl) (zne rfl) (zne rfl)).trans e56)
          obtain ⟨v74, e74⟩ : ∃ z, M 598 79 = z := ⟨_, rfl⟩
          have b74 : 0 ≤ v74 ∧ v74 ≤ 255 := by rw [← e74]; exact hI_M 598 79 (Nat.le_of_ble_eq_true rfl)
          have e75 : M52 598 79 = v74 := ((w52_5 79 (zne rfl) (zne rfl) (zne rfl)).trans e74)
          refine jr.pick (ls := [_, _]) [1, 2] rfl rfl ?_
          exact r_deed_L63 q M52 v1 hI_M52 hH_M52 hS_M52  (fun a i f598 f659 f660 f661 f662 f663 f664 f665 f666 f667 f668 f669 => ((w52_4 a i f598).trans rfl)) (fun i g73 g74 g75 g76 g77 g78 g79 g80 g81 g89 g90 g96 g100 g102 g107 => ((w52_5 i g80 g81 g89).trans rfl)) (by omega) hX hA (by rw [e61] <;> omega) (by rw [e63, e64] <;> omega) (by rw [e65] <;> omega) (by rw [e66, e68] <;> omega) (by rw [e70] <;> omega) (by rw [e72] <;> omega) (by rw [e73, e75] <;> omega) (by omega) (by rw [e73] <;> omega) (by omega)
        · refine jr.if_ne rfl rfl (by first | exact rgl rfl | omega) (fun h => absurd h (by decide)) (fun _ => ?_)
          obtain ⟨v76, e76⟩ : ∃ z, M 598 72 = z := ⟨_, rfl⟩
          have b76 : 0 ≤ v76 ∧ v76 ≤ 1600 := by rw [← e76]; exact hI_M 598 72 (Nat.le_of_ble_eq_true rfl)
          have e77 : M52 598 72 = v76 := ((w52_5 72 (zne rfl) (zne rfl) (zne rfl)).trans e76)
          have e79 : M52 598 73 = v54 := ((w52_5 73 (zne rfl) (zne rfl) (zne rfl)).trans e54)
          have e81 : M52 598 74 = v56 := ((w52_5 74 (zne rfl) (zne rfl) (zne rfl)).trans e56)
          obtain ⟨v83, e83⟩ : ∃ z, M 598 79 = z := ⟨_, rfl⟩
          have b83 : 0 ≤ v83 ∧ v83 ≤ 255 := by rw [← e83]; exact hI_M 598 79 (Nat.le_of_ble_eq_true rfl)
          have e84 : M52 598 79 = v83 := ((w52_5 79 (zne rfl) (zne rfl) (zne rfl)).trans e83)
          obtain ⟨v86, e86⟩ : ∃ z, M52 598 80 = z := ⟨_, rfl⟩
          have b86 : 0 ≤ v86 ∧ v86 ≤ 7 := by rw [← e86]; exact hI_M52 598 80 (Nat.le_of_ble_eq_true rfl)
          obtain ⟨v88, e88⟩ : ∃ z, M52 598 89 = z := ⟨_, rfl⟩
          have b88 : 0 ≤ v88 ∧ v88 ≤ 301 := by rw [← e88]; exact hI_M52 598 89 (Nat.le_of_ble_eq_true rfl)
          obtain ⟨v90, e90⟩ : ∃ z, M 598 90 = z := ⟨_, rfl⟩
          have b90 : 0 ≤ v90 ∧ v90 ≤ 2200 := by rw [← e90]; exact hI_M 598 90 (Nat.le_of_ble_eq_true rfl)
          have e91 : M52 598 90 = v90 := ((w52_5 90 (zne rfl) (zne rfl) (zne rfl)).trans e90)
          obtain ⟨v93, e93⟩ : ∃ z, M 598 96 = z := ⟨_, rfl⟩
          have b93 : 0 ≤ v93 ∧ v93 ≤ 300 := by rw [← e93]; exact hI_M 598 96 (Nat.le_of_ble_eq_true rfl)
          have e94 : M52 598 96 = v93 := ((w52_5 96 (zne rfl) (zne rfl) (zne rfl)).trans e93)
          have e96 : M52 598 100 = v59 := ((w52_5 100 (zne rfl) (zne rfl) (zne rfl)).trans e59)
          obtain ⟨v98, e98⟩ : ∃ z, M 598 107 = z := ⟨_, rfl⟩
          have b98 : 0 ≤ v98 ∧ v98 ≤ 16 := by rw [← e98]; exact hI_M 598 107 (Nat.le_of_ble_eq_true rfl)
          have e99 : M52 598 107 = v98 := ((w52_5 107 (zne rfl) (zne rfl) (zne rfl)).trans e98)
          exact jr.vreturn rfl rfl (q _ hI_M52 hH_M52 hS_M52  (Or.inl ⟨by omega, by omega⟩) (by omega) (by omega) (by omega) (by omega) (fun a i f598 f659 f660 f661 f662 f663 f664 f665 f666 f667 f668 f669 => ((w52_4 a i f598).trans rfl)) (fun i g73 g74 g75 g76 g77 g78 g79 g80 g81 g89 g90 g96 g100 g102 g107 => ((w52_5 i g80 g81 g89).trans rfl)))
      · have sx27 : (1 : Int) ≤ v51 := by omega
        clear h27
        refine jr.iload_n rfl rfl ?_
        refine jr.bipush rfl (jbp _ (nlt rfl)) ?_
        refine jr.icmp_le rfl rfl (by first | (refine rgb (by assumption) ?_; exact rfl) | omega) (rgl rfl) (fun h33 => ?_) (fun h33 => ?_)
        · refine jr.iconst rfl ?_
          refine jr.istore_n (ls' := [_, _, _]) rfl (nlt rfl) rfl ?_
          refine jr.iload_n rfl rfl ?_
          refine jr.if_ne rfl rfl (by first | exact rgl rfl | omega) (fun h => absurd h (by decide)) (fun _ => ?_)
          refine jr.aload_n rfl rfl ?_
          refine jr_v rfl rfl (Or.inl rfl) rfl rfl (nlt rfl) rfl ⟨rfl, Nat.le_of_ble_eq_true rfl, Nat.le_of_ble_eq_true rfl⟩ rfl (jc.deep (r_wrongToken hI_M hH_M hS_M    (fun M101 hI_M101 hH_M101 hS_M101  w101_0 w101_1 w101_2 => ?_)) (Nat.le_of_ble_eq_true rfl))
          have tk101 : TK M101 = TK M := TK.fr (w101_2 73 (zne rfl) (zne rfl)) (w101_2 74 (zne rfl) (zne rfl))
          obtain ⟨v102, e102⟩ : ∃ z, M 598 72 = z := ⟨_, rfl⟩
          have b102 : 0 ≤ v102 ∧ v102 ≤ 1600 := by rw [← e102]; exact hI_M 598 72 (Nat.le_of_ble_eq_true rfl)
          have e103 : M101 598 72 = v102 := ((w101_2 72 (zne rfl) (zne rfl)).trans e102)
          obtain ⟨v105, e105⟩ : ∃ z, M 598 73 = z := ⟨_, rfl⟩
          have b105 : 0 ≤ v105 ∧ v105 ≤ 1600 := by rw [← e105]; exact hI_M 598 73 (Nat.le_of_ble_eq_true rfl)
          have e106 : M101 598 73 = v105 := ((w101_2 73 (zne rfl) (zne rfl)).trans e105)
          obtain ⟨v108, e108⟩ : ∃ z, M 598 74 = z := ⟨_, rfl⟩
          have b108 : 0 ≤ v108 ∧ v108 ≤ 4 := by rw [← e108]; exact hI_M 598 74 (Nat.le_of_ble_eq_true rfl)
          have e109 : M101 598 74 = v108 := ((w101_2 74 (zne rfl) (zne rfl)).trans e108)
          obtain ⟨v111, e111⟩ : ∃ z, M 598 79 = z := ⟨_, rfl⟩
          have b111 : 0 ≤ v111 ∧ v111 ≤ 255 := by rw [← e111]; exact hI_M 598 79 (Nat.le_of_ble_eq_true rfl)
          have e112 : M101 598 79 = v111 := ((w101_2 79 (zne rfl) (zne rfl)).trans e111)
          obtain ⟨v114, e114⟩ : ∃ z, M101 598 80 = z := ⟨_, rfl⟩
          have b114 : 0 ≤ v114 ∧ v114 ≤ 7 := by rw [← e114]; exact hI_M101 598 80 (Nat.le_of_ble_eq_true rfl)
          obtain ⟨v116, e116⟩ : ∃ z, M 598 89 = z := ⟨_, rfl⟩
          have b116 : 0 ≤ v116 ∧ v116 ≤ 301 := by rw [← e116]; exact hI_M 598 89 (Nat.le_of_ble_eq_true rfl)
          have e117 : M101 598 89 = v116 := ((w101_2 89 (zne rfl) (zne rfl)).trans e116)
          obtain ⟨v119, e119⟩ : ∃ z, M 598 90 = z := ⟨_, rfl⟩
          have b119 : 0 ≤ v119 ∧ v119 ≤ 2200 := by rw [← e119]; exact hI_M 598 90 (Nat.le_of_ble_eq_true rfl)
          have e120 : M101 598 90 = v119 := ((w101_2 90 (zne rfl) (zne rfl)).trans e119)
          obtain ⟨v122, e122⟩ : ∃ z, M 598 96 = z := ⟨_, rfl⟩
          have b122 : 0 ≤ v122 ∧ v122 ≤ 300 := by rw [← e122]; exact hI_M 598 96 (Nat.le_of_ble_eq_true rfl)
          have e123 : M101 598 96 = v122 := ((w101_2 96 (zne rfl) (zne rfl)).trans e122)
          obtain ⟨v125, e125⟩ : ∃ z, M 598 100 = z := ⟨_, rfl⟩
          have b125 : 0 ≤ v125 ∧ v125 ≤ 13 := by rw [← e125]; exact hI_M 598 100 (Nat.le_of_ble_eq_true rfl)
          have e126 : M101 598 100 = v125 := ((w101_2 100 (zne rfl) (zne rfl)).trans e125)
          obtain ⟨v128, e128⟩ : ∃ z, M 598 107 = z := ⟨_, rfl⟩
          have b128 : 0 ≤ v128 ∧ v128 ≤ 16 := by rw [← e128]; exact hI_M 598 107 (Nat.le_of_ble_eq_true rfl)
          have e129 : M101 598 107 = v128 := ((w101_2 107 (zne rfl) (zne rfl)).trans e128)
          exact jr.vreturn rfl rfl (q _ hI_M101 hH_M101 hS_M101  (Or.inl ⟨by omega, by omega⟩) (by omega) (by omega) (by omega) (by omega) (fun a i f598 f659 f660 f661 f662 f663 f664 f665 f666 f667 f668 f669 => ((w101_1 a i f598).trans rfl)) (fun i g73 g74 g75 g76 g77 g78 g79 g80 g81 g89 g90 g96 g100 g102 g107 => ((w101_2 i g80 g81).trans rfl)))
        · refine jr.iconst rfl ?_
          refine jr.goto rfl rfl ?_
          refine jr.istore_n (ls' := [_, _, _]) rfl (nlt rfl) rfl ?_
          refine jr.iload_n rfl rfl ?_
          refine jr.if_ne rfl rfl (by first | exact rgl rfl | omega) (fun _ => ?_) (fun h => absurd (by decide) h)
          refine jr.aload_n rfl rfl ?_
          obtain ⟨v132, e132⟩ : ∃ z, M 598 89 = z := ⟨_, rfl⟩
          have b132 : 0 ≤ v132 ∧ v132 ≤ 301 := by rw [← e132]; exact hI_M 598 89 (Nat.le_of_ble_eq_true rfl)
          obtain ⟨v133, e133⟩ : ∃ z, M 598 73 = z := ⟨_, rfl⟩
          have b133 : 0 ≤ v133 ∧ v133 ≤ 1600 := by rw [← e133]; exact hI_M 598 73 (Nat.le_of_ble_eq_true rfl)
          obtain ⟨v135, e135⟩ : ∃ z, M 598 74 = z := ⟨_, rfl⟩
          have b135 : 0 ≤ v135 ∧ v135 ≤ 4 := by rw [← e135]; exact hI_M 598 74 (Nat.le_of_ble_eq_true rfl)
          obtain ⟨v138, e138⟩ : ∃ z, M 598 100 = z := ⟨_, rfl⟩
          have b138 : 0 ≤ v138 ∧ v138 ≤ 13 := by rw [← e138]; exact hI_M 598 100 (Nat.le_of_ble_eq_true rfl)
          refine jr_v rfl rfl (Or.inl rfl) rfl rfl (nlt rfl) rfl ⟨rfl, Nat.le_of_ble_eq_true rfl, Nat.le_of_ble_eq_true rfl⟩ rfl (jc.deep (r_node hI_M hH_M hS_M   (by rw [e132]; omega) (fun M131 hI_M131 hH_M131 hS_M131  w131_0 w131_1 w131_2 w131_3 w131_4 w131_5 => ?_)) (Nat.le_of_ble_eq_true rfl))
          have tk131 : TK M131 = TK M := TK.fr (w131_5 73 (zne rfl) (zne rfl) (zne rfl)) (w131_5 74 (zne rfl) (zne rfl) (zne rfl))
          have x131_73 := w131_5 73 (zne rfl) (zne rfl) (zne rfl)
          have x131_74 := w131_5 74 (zne rfl) (zne rfl) (zne rfl)
          have x131_100 := w131_5 100 (zne rfl) (zne rfl) (zne rfl)
          have hX := XS.fr2 hX w131_4 (w131_5 88 (zne rfl) (zne rfl) (zne rfl)) (w131_5 90 (zne rfl) (zne rfl) (zne rfl)) (w131_5 101 (zne rfl) (zne rfl) (zne rfl)) (w131_5 107 (zne rfl) (zne rfl) (zne rfl)) (k' := 2 + 2 + 2) (d' := 0) (z' := 0) (by omega) (by omega) (by omega) (by omega)
          have hA := AK.cp hA (CP.f (CP.rfl _) (fun i => w131_4 659 i (nne rfl)) (w131_5 90 (zne rfl) (zne rfl) (zne rfl))) (fun i => w131_4 663 i (nne rfl)) (w131_5 96 (zne rfl) (zne rfl) (zne rfl))
          refine jr.aload_n rfl rfl ?_
          refine jr_v rfl rfl (Or.inl rfl) rfl rfl (nlt rfl) rfl ⟨rfl, Nat.le_of_ble_eq_true rfl, Nat.le_of_ble_eq_true rfl⟩ rfl (jc.deep (c_good hI_M131  (fun t56_0 => ?_) (fun f56_0 => ?_)) (Nat.le_of_ble_eq_true rfl))
          · have w131_1r := Classical.byContradiction (fun z => w131_1 z t56_0)
            have w131_2r := w131_2 t56_0
            clear w131_1 w131_2 w131_3
            refine jr.if_ne rfl rfl (by first | exact rgl rfl | omega) (fun _ => ?_) (fun h => absurd (by decide) h)
            obtain ⟨v140, e140⟩ : ∃ z, M131 598 80 = z := ⟨_, rfl⟩
            have b140 : 0 ≤ v140 ∧ v140 ≤ 7 := by rw [← e140]; exact hI_M131 598 80 (Nat.le_of_ble_eq_true rfl)
            obtain ⟨v141, e141⟩ : ∃ z, M 598 96 = z := ⟨_, rfl⟩
            have b141 : 0 ≤ v141 ∧ v141 ≤ 300 := by rw [← e141]; exact hI_M 598 96 (Nat.le_of_ble_eq_true rfl)
            have e142 : M131 598 96 = v141 := ((w131_5 96 (zne rfl) (zne rfl) (zne rfl)).trans e141)
            obtain ⟨v143, e143⟩ : ∃ z, M131 598 89 = z := ⟨_, rfl⟩
            have b143 : 0 ≤ v143 ∧ v143 ≤ 301 := by rw [← e143]; exact hI_M131 598 89 (Nat.le_of_ble_eq_true rfl)
            have e144 : M131 598 100 = v138 := ((w131_5 100 (zne rfl) (zne rfl) (zne rfl)).trans e138)
            have e145 : M131 598 73 = v133 := ((w131_5 73 (zne rfl) (zne rfl) (zne rfl)).trans e133)
            obtain ⟨v146, e146⟩ : ∃ z, M 598 72 = z := ⟨_, rfl⟩
            have b146 : 0 ≤ v146 ∧ v146 ≤ 1600 := by rw [← e146]; exact hI_M 598 72 (Nat.le_of_ble_eq_true rfl)
            have e147 : M131 598 72 = v146 := ((w131_5 72 (zne rfl) (zne rfl) (zne rfl)).trans e146)
            obtain ⟨v148, e148⟩ : ∃ z, M 598 107 = z := ⟨_, rfl⟩
            have b148 : 0 ≤ v148 ∧ v148 ≤ 16 := by rw [← e148]; exact hI_M 598 107 (Nat.le_of_ble_eq_true rfl)
            have e149 : M131 598 107 = v148 := ((w131_5 107 (zne rfl) (zne rfl) (zne rfl)).trans e148)
            obtain ⟨v150, e150⟩ : ∃ z, M 598 88 = z := ⟨_, rfl⟩
            have b150 : 0 ≤ v150 ∧ v150 ≤ 16 := by rw [← e150]; exact hI_M 598 88 (Nat.le_of_ble_eq_true rfl)
            have e151 : M131 598 88 = v150 := ((w131_5 88 (zne rfl) (zne rfl) (zne rfl)).trans e150)
            have e152 : M131 598 74 = v135 := ((w131_5 74 (zne rfl) (zne rfl) (zne rfl)).trans e135)
            obtain ⟨v153, e153⟩ : ∃ z, M 598 79 = z := ⟨_, rfl⟩
            have b153 : 0 ≤ v153 ∧ v153 ≤ 255 := by rw [← e153]; exact hI_M 598 79 (Nat.le_of_ble_eq_true rfl)
            have e154 : M131 598 79 = v153 := ((w131_5 79 (zne rfl) (zne rfl) (zne rfl)).trans e153)
            refine jr.pick (ls := [_, _]) [1, 2] rfl rfl ?_
            exact r_deed_L63 q M131 v1 hI_M131 hH_M131 hS_M131  (fun a i f598 f659 f660 f661 f662 f663 f664 f665 f666 f667 f668 f669 => ((w131_4 a i f598).trans rfl)) (fun i g73 g74 g75 g76 g77 g78 g79 g80 g81 g89 g90 g96 g100 g102 g107 => ((w131_5 i g80 g81 g89).trans rfl)) (by omega) hX hA (by rw [e140] <;> omega) (by rw [e142, e143] <;> omega) (by rw [e144] <;> omega) (by rw [e145, e147] <;> omega) (by rw [e149] <;> omega) (by rw [e151] <;> omega) (by rw [e152, e154] <;> omega) (by omega) (by rw [e152] <;> omega) (by omega)
          · refine jr.if_ne rfl rfl (by first | exact rgl rfl | omega) (fun h => absurd h (by decide)) (fun _ => ?_)
            obtain ⟨v155, e155⟩ : ∃ z, M 598 72 = z := ⟨_, rfl⟩
            have b155 : 0 ≤ v155 ∧ v155 ≤ 1600 := by rw [← e155]; exact hI_M 598 72 (Nat.le_of_ble_eq_true rfl)
            have e156 : M131 598 72 = v155 := ((w131_5 72 (zne rfl) (zne rfl) (zne rfl)).trans e155)
            have e158 : M131 598 73 = v133 := ((w131_5 73 (zne rfl) (zne rfl) (zne rfl)).trans e133)
            have e160 : M131 598 74 = v135 := ((w131_5 74 (zne rfl) (zne rfl) (zne rfl)).trans e135)
            obtain ⟨v162, e162⟩ : ∃ z, M 598 79 = z := ⟨_, rfl⟩
            have b162 : 0 ≤ v162 ∧ v162 ≤ 255 := by rw [← e162]; exact hI_M 598 79 (Nat.le_of_ble_eq_true rfl)
            have e163 : M131 598 79 = v162 := ((w131_5 79 (zne rfl) (zne rfl) (zne rfl)).trans e162)
            obtain ⟨v165, e165⟩ : ∃ z, M131 598 80 = z := ⟨_, rfl⟩
            have b165 : 0 ≤ v165 ∧ v165 ≤ 7 := by rw [← e165]; exact hI_M131 598 80 (Nat.le_of_ble_eq_true rfl)
            obtain ⟨v167, e167⟩ : ∃ z, M131 598 89 = z := ⟨_, rfl⟩
            have b167 : 0 ≤ v167 ∧ v167 ≤ 301 := by rw [← e167]; exact hI_M131 598 89 (Nat.le_of_ble_eq_true rfl)
            obtain ⟨v169, e169⟩ : ∃ z, M 598 90 = z := ⟨_, rfl⟩
            have b169 : 0 ≤ v169 ∧ v169 ≤ 2200 := by rw [← e169]; exact hI_M 598 90 (Nat.le_of_ble_eq_true rfl)
            have e170 : M131 598 90 = v169 := ((w131_5 90 (zne rfl) (zne rfl) (zne rfl)).trans e169)
            obtain ⟨v172, e172⟩ : ∃ z, M 598 96 = z := ⟨_, rfl⟩
            have b172 : 0 ≤ v172 ∧ v172 ≤ 300 := by rw [← e172]; exact hI_M 598 96 (Nat.le_of_ble_eq_true rfl)
            have e173 : M131 598 96 = v172 := ((w131_5 96 (zne rfl) (zne rfl) (zne rfl)).trans e172)
            have e175 : M131 598 100 = v138 := ((w131_5 100 (zne rfl) (zne rfl) (zne rfl)).trans e138)
            obtain ⟨v177, e177⟩ : ∃ z, M 598 107 = z := ⟨_, rfl⟩
            have b177 : 0 ≤ v177 ∧ v177 ≤ 16 := by rw [← e177]; exact hI_M 598 107 (Nat.le_of_ble_eq_true rfl)
            have e178 : M131 598 107 = v177 := ((w131_5 107 (zne rfl) (zne rfl) (zne rfl)).trans e177)
            exact jr.vreturn rfl rfl (q _ hI_M131 hH_M131 hS_M131  (Or.inl ⟨by omega, by omega⟩) (by omega) (by omega) (by omega) (by omega) (fun a i f598 f659 f660 f661 f662 f663 f664 f665 f666 f667 f668 f669 => ((w131_4 a i f598).trans rfl)) (fun i g73 g74 g75 g76 g77 g78 g79 g80 g81 g89 g90 g96 g100 g102 g107 => ((w131_5 i g80 g81 g89).trans rfl)))
    · refine jr.if_eq rfl rfl (by first | exact rgl rfl | omega) (fun _ => ?_) (fun h => absurd (by decide) h)
      refine jr.iconst rfl ?_
      refine jr.istore_n (ls' := [_, _, _]) rfl (nlt rfl) rfl ?_
      refine jr.iload_n rfl rfl ?_
      refine jr.if_ne rfl rfl (by first | exact rgl rfl | omega) (fun h => absurd h (by decide)) (fun _ => ?_)
      refine jr.aload_n rfl rfl ?_
      refine jr_v rfl rfl (Or.inl rfl) rfl rfl (nlt rfl) rfl ⟨rfl, Nat.le_of_ble_eq_true rfl, Nat.le_of_ble_eq_true rfl⟩ rfl (jc.deep (r_wrongToken hI_M hH_M hS_M    (fun M180 hI_M180 hH_M180 hS_M180  w180_0 w180_1 w180_2 => ?_)) (Nat.le_of_ble_eq_true rfl))
      have tk180 : TK M180 = TK M := TK.fr (w180_2 73 (zne rfl) (zne rfl)) (w180_2 74 (zne rfl) (zne rfl))
      obtain ⟨v181, e181⟩ : ∃ z, M 598 72 = z := ⟨_, rfl⟩
      have b181 : 0 ≤ v181 ∧ v181 ≤ 1600 := by rw [← e181]; exact hI_M 598 72 (Nat.le_of_ble_eq_true rfl)
      have e182 : M180 598 72 = v181 := ((w180_2 72 (zne rfl) (zne rfl)).trans e181)
      obtain ⟨v184, e184⟩ : ∃ z, M 598 73 = z := ⟨_, rfl⟩
      have b184 : 0 ≤ v184 ∧ v184 ≤ 1600 := by rw [← e184]; exact hI_M 598 73 (Nat.le_of_ble_eq_true rfl)
      have e185 : M180 598 73 = v184 := ((w180_2 73 (zne rfl) (zne rfl)).trans e184)
      obtain ⟨v187, e187⟩ : ∃ z, M 598 74 = z := ⟨_, rfl⟩
      have b187 : 0 ≤ v187 ∧ v187 ≤ 4 := by rw [← e187]; exact hI_M 598 74 (Nat.le_of_ble_eq_true rfl)
      have e188 : M180 598 74 = v187 := ((w180_2 74 (zne rfl) (zne rfl)).trans e187)
      obtain ⟨v190, e190⟩ : ∃ z, M 598 79 = z := ⟨_, rfl⟩
      have b190 : 0 ≤ v190 ∧ v190 ≤ 255 := by rw [← e190]; exact hI_M 598 79 (Nat.le_of_ble_eq_true rfl)
      have e191 : M180 598 79 = v190 := ((w180_2 79 (zne rfl) (zne rfl)).trans e190)
      obtain ⟨v193, e193⟩ : ∃ z, M180 598 80 = z := ⟨_, rfl⟩
      have b193 : 0 ≤ v193 ∧ v193 ≤ 7 := by rw [← e193]; exact hI_M180 598 80 (Nat.le_of_ble_eq_true rfl)
      obtain ⟨v195, e195⟩ : ∃ z, M 598 89 = z := ⟨_, rfl⟩
      have b195 : 0 ≤ v195 ∧ v195 ≤ 301 := by rw [← e195]; exact hI_M 598 89 (Nat.le_of_ble_eq_true rfl)
      have e196 : M180 598 89 = v195 := ((w180_2 89 (zne rfl) (zne rfl)).trans e195)
      obtain ⟨v198, e198⟩ : ∃ z, M 598 90 = z := ⟨_, rfl⟩
      have b198 : 0 ≤ v198 ∧ v198 ≤ 2200 := by rw [← e198]; exact hI_M 598 90 (Nat.le_of_ble_eq_true rfl)
      have e199 : M180 598 90 = v198 := ((w180_2 90 (zne rfl) (zne rfl)).trans e198)
      obtain ⟨v201, e201⟩ : ∃ z, M 598 96 = z := ⟨_, rfl⟩
      have b201 : 0 ≤ v201 ∧ v201 ≤ 300 := by rw [← e201]; exact hI_M 598 96 (Nat.le_of_ble_eq_true rfl)
      have e202 : M180 598 96 = v201 := ((w180_2 96 (zne rfl) (zne rfl)).trans e201)
      obtain ⟨v204, e204⟩ : ∃ z, M 598 100 = z := ⟨_, rfl⟩
      have b204 : 0 ≤ v204 ∧ v204 ≤ 13 := by rw [← e204]; exact hI_M 598 100 (Nat.le_of_ble_eq_true rfl)
      have e205 : M180 598 100 = v204 := ((w180_2 100 (zne rfl) (zne rfl)).trans e204)
      obtain ⟨v207, e207⟩ : ∃ z, M 598 107 = z := ⟨_, rfl⟩
      have b207 : 0 ≤ v207 ∧ v207 ≤ 16 := by rw [← e207]; exact hI_M 598 107 (Nat.le_of_ble_eq_true rfl)
      have e208 : M180 598 107 = v207 := ((w180_2 107 (zne rfl) (zne rfl)).trans e207)
      exact jr.vreturn rfl rfl (q _ hI_M180 hH_M180 hS_M180  (Or.inl ⟨by omega, by omega⟩) (by omega) (by omega) (by omega) (by omega) (fun a i f598 f659 f660 f661 f662 f663 f664 f665 f666 f667 f668 f669 => ((w180_1 a i f598).trans rfl)) (fun i g73 g74 g75 g76 g77 g78 g79 g80 g81 g89 g90 g96 g100 g102 g107 => ((w180_2 i g80 g81).trans rfl)))
