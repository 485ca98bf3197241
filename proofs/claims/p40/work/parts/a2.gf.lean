section
/-! ===== the reference: tick ===== -/
/-- who lives behind k ticks, those below i behind one more -/
noncomputable def TW (T M : jm) (a c : Nat) (m k i : Int) : Prop := ∀ j : Int, 0 ≤ j → j < m → M a j = if (if j < i then k + 1 else k) = 0 ∨ T 598 2 + (if j < i then k + 1 else k) < T c j then T a j else 0
theorem TW.z {T : jm} {a c : Nat} {m : Int} : TW T T a c m 0 0 := fun j j0 j1 => by
  rw [if_neg (show ¬ j < 0 by omega), if_pos (Or.inl rfl)]
theorem TW.n {T M : jm} {a c : Nat} {m k : Int} (h : TW T M a c m k m) : TW T M a c m (k + 1) 0 := fun j j0 j1 => by
  have q := h j j0 j1
  rw [if_pos j1] at q
  rw [if_neg (show ¬ j < 0 by omega)]
  exact q
theorem TW.e {T M M2 : jm} {a c : Nat} {m k i : Int} (h : TW T M a c m k i) (e : ∀ j : Int, M2 a j = M a j) : TW T M2 a c m k i := fun j j0 j1 => by
  rw [e]
  exact h j j0 j1
theorem TW.s {T M : jm} {a c : Nat} {m k i v : Int} (h : TW T M a c m k i) (hi : 0 ≤ i ∧ i < m) (hk : 0 ≤ k) (h01 : 0 ≤ T a i ∧ T a i ≤ 1) (hv : v = if M a i ≠ 0 ∧ T 598 2 + (k + 1) < T c i then 1 else 0) : TW T (ju M a i v) a c m k (i + 1) := fun j j0 j1 => by
  by_cases e : j = i
  · subst e
    have q := h j j0 j1
    rw [ju_same, hv]
    rw [if_neg (show ¬ j < j by omega)] at q
    rw [if_pos (show j < j + 1 by omega), q]
    (repeat' split) <;> omega
  · have q := h j j0 j1
    rw [ju_i _ _ e, q]
    by_cases z : j < i
    · rw [if_pos z, if_pos (show j < i + 1 by omega)]
    · rw [if_neg z, if_neg (show ¬ j < i + 1 by omega)]
theorem RG1.keepx {M : jm} {g v : Int} (h : RG1 M) (hu : M 606 g ≠ 0) : RG1 (ju M 606 g v) := fun j hj => by
  have q := h j hj
  unfold RGs at q ⊢
  intro u
  have hq : M 606 j ≠ 0 := by
    by_cases e : j = g
    · rw [e]; exact hu
    · rw [ju_i M v e] at u; exact u
  rw [ju_c M v (by decide), ju_c M v (by decide), ju_c M v (by decide), ju_c M v (by decide), ju_c M v (by decide), ju_c M v (by decide), ju_c M v (by decide)]
  exact q hq
theorem TW.f {T M : jm} {a c : Nat} {m k : Int} (h : TW T M a c m k 0) (hk : 1 ≤ k) : ∀ j : Int, 0 ≤ j → j < m → M a j = if T c j ≤ T 598 2 + k then 0 else T a j := fun j j0 j1 => by
  have q := h j j0 j1
  rw [if_neg (show ¬ j < 0 by omega)] at q
  rw [q]
  by_cases z : T c j ≤ T 598 2 + k
  · rw [if_pos z, if_neg (by omega)]
  · rw [if_neg z, if_pos (by omega)]
theorem r_tick_L128_x {A : Nat → Option (Nat × (Nat → Int32))} {Q : Option Value → jm → Prop} {M0 : jm} {n0 : Int} (q : ∀ (r : Int) (M' : jm), RI M' → RH M' → RF M' → (-3) ≤ r ∧ r ≤ 2000000 → (((1 ≤ n0 ∧ n0 ≤ 1000) ∧ r = M0 598 2 + n0 ∧ M' 598 2 = M0 598 2 + n0 ∧ (∀ j : Int, 0 ≤ j → j < 8 → M' 606 j = if M0 612 j ≤ M0 598 2 + n0 then 0 else M0 606 j) ∧ (∀ j : Int, 0 ≤ j → j < 24 → M' 627 j = if M0 639 j ≤ M0 598 2 + n0 then 0 else M0 627 j)) ∨ (¬ (1 ≤ n0 ∧ n0 ≤ 1000) ∧ r = -3 ∧ M' = M0)) → RG1 M' → (∀ (a : Nat) (i : Int), a ≠ 598 → a ≠ 606 → a ≠ 624 → a ≠ 627 → M' a i = M0 a i) → (∀ (i : Int), i ≠ 2 → M' 598 i = M0 598 i) → Q (some (.int (Int32.ofInt r))) M') (nO : Nat) (ko : ∀ (M : jm) (k : Int) (n : Int), RI M → RH M → RF M → (∀ (a : Nat) (i : Int), a ≠ 598 → a ≠ 606 → a ≠ 624 → a ≠ 627 → M a i = M0 a i) → (∀ (i : Int), i ≠ 2 → M 598 i = M0 598 i) → 0 ≤ k ∧ k ≤ 1000 → 1 ≤ n ∧ n ≤ 1000 → RG1 M → RI M0 → k ≤ n → M 598 2 = M0 598 2 + k → TW M0 M 606 612 8 (k) (0) → TW M0 M 627 639 24 (k) (0) → 0 ≤ M0 598 2 ∧ M0 598 2 ≤ 1000000 → n = n0 → 1000 - k ≤ nO → jr A 1 xm_298 17 [(2, .int (Int32.ofInt (k))), (1, .int (Int32.ofInt (n))), (0, .ref (598))] [] M Q) : ∀ (nM : Nat) (M : jm) (j : Int) (k : Int) (n : Int), RI M → RH M → RF M → (∀ (a : Nat) (i : Int), a ≠ 598 → a ≠ 606 → a ≠ 624 → a ≠ 627 → M a i = M0 a i) → (∀ (i : Int), i ≠ 2 → M 598 i = M0 598 i) → 0 ≤ j ∧ j ≤ 4 → 0 ≤ k ∧ k ≤ 999 → 1 ≤ n ∧ n ≤ 1000 → RG1 M → RI M0 → 1000 - (k + 1) ≤ nO → k < n → M 598 2 = M0 598 2 + k + 1 → TW M0 M 606 612 8 (k + 1) (0) → TW M0 M 627 639 24 (k + 1) (0) → 0 ≤ M0 598 2 ∧ M0 598 2 ≤ 1000000 → n = n0 → 4 - j ≤ nM → jr A 1 xm_298 128 [(3, .int (Int32.ofInt (j))), (2, .int (Int32.ofInt (k))), (1, .int (Int32.ofInt (n))), (0, .ref (598))] [] M Q := by
  intro nM
  induction nM using Nat.strongRecOn with
  | ind nM ih =>
    intro M j k n hI_M hH_M hS_M hF_M hG_M h_j h_k h_n hy0 hy1 hy2 hy3 hy4 hy5 hy6 hy7 hy8 hm
    subst hy8
    have hG1 := hy0
    have hI0 := hy1
    refine jr.iload_n rfl rfl ?_
    refine jr.iconst rfl ?_
    refine jr.icmp_ge rfl rfl (by first | (refine rgb (by assumption) ?_; exact rfl) | omega) (rgl rfl) (fun h130 => ?_) (fun h130 => ?_)
    · refine jr.iinc (ls' := [_, _, _, _]) rfl rfl (nlt rfl) rfl ?_
      refine jr.goto rfl rfl ?_
      obtain ⟨v1, e1⟩ : ∃ z, M 598 2 = z := ⟨_, rfl⟩
      have b1 : 0 ≤ v1 ∧ v1 ≤ 2000000 := by rw [← e1]; exact hI_M 598 2 (Nat.le_of_ble_eq_true rfl)
      refine jr.pick (ls := [_, _, _]) [0, 2, 3] rfl rfl ?_
      exact ko M (k + 1) n hI_M hH_M hS_M  (fun a i f598 f606 f624 f627 => (hF_M a i f598 f606 f624 f627)) (fun i g2 => (hG_M i g2)) (by omega) (by omega) hG1 hy1 (by omega) ((e1).trans (by omega)) (TW.e hy5 (fun j => rfl)) (TW.e hy6 (fun j => rfl)) (by omega) (by omega) (by omega)
    · refine jr.aload_n rfl rfl ?_
      refine jr.getf (i := 37) (v := .ref 625) rfl rfl (nlt rfl) rfl (nlt rfl) rfl rfl rfl rfl ?_
      refine jr.iload_n rfl rfl ?_
      obtain ⟨v2, e2⟩ : ∃ z, M 625 j = z := ⟨_, rfl⟩
      have b2 : 0 ≤ v2 ∧ v2 ≤ 1000 := by rw [← e2]; exact (by have q := hI_M 625 j (Nat.le_of_ble_eq_true rfl); rw [xri_row rfl rfl] at q; exact q)
      refine jr.iald (i := j) (x := v2) rfl (nlt rfl) rfl (Nat.le_of_ble_eq_true rfl) (by omega) (by omega) e2 ?_
      refine jr.if_le rfl rfl (by first | (refine rgb (by assumption) ?_; exact rfl) | omega) (fun h139 => ?_) (fun h139 => ?_)
      · refine jr.iconst rfl ?_
        refine jr.istore (ls' := [_, _, _, _, _]) rfl (nlt rfl) rfl ?_
        refine jr.aload_n rfl rfl ?_
        refine jr.getf (i := 36) (v := .ref 624) rfl rfl (nlt rfl) rfl (nlt rfl) rfl rfl rfl rfl ?_
        refine jr.iload_n rfl rfl ?_
        refine jr.dup2 rfl ⟨rfl, rfl⟩ ?_
        obtain ⟨v3, e3⟩ : ∃ z, M 624 j = z := ⟨_, rfl⟩
        have b3 : 0 ≤ v3 ∧ v3 ≤ 1000 := by rw [← e3]; exact (by have q := hI_M 624 j (Nat.le_of_ble_eq_true rfl); rw [xri_row rfl rfl] at q; exact q)
        refine jr.iald (i := j) (x := v3) rfl (nlt rfl) rfl (Nat.le_of_ble_eq_true rfl) (by omega) (by omega) e3 ?_
        refine jr.iload rfl rfl ?_
        refine jr.if_eq rfl rfl (by first | exact rgl rfl | omega) (fun _ => ?_) (fun h => absurd (by decide) h)
        refine jr.iconst rfl ?_
        refine jr.iadd rfl ?_
        refine jr.iast (i := j) (x := (v3 + 0)) rfl (nlt rfl) rfl (Nat.le_of_ble_eq_true rfl) (by omega) (by omega) ?_
        refine jr.iinc (ls' := [_, _, _, _, _]) rfl rfl (nlt rfl) rfl ?_
        refine jr.goto rfl rfl ?_
        obtain ⟨v4, e4⟩ : ∃ z, M 598 2 = z := ⟨_, rfl⟩
        have b4 : 0 ≤ v4 ∧ v4 ≤ 2000000 := by rw [← e4]; exact hI_M 598 2 (Nat.le_of_ble_eq_true rfl)
        refine jr.pick (ls := [_, _, _, _]) [0, 2, 3, 4] rfl rfl ?_
        exact ih (nM - 1) (by omega) (ju M 624 j (v3 + 0)) (j + 1) k n (RI.u hI_M (a := 624) (i := j) (by rw [xri_row rfl rfl]; show (0 : Int) ≤ _ ∧ _ ≤ (1000 : Int); omega)) (RH.o hH_M (by decide) (by decide) (by decide)) (RF.o hS_M (by decide) (by decide))  (fun a i f598 f606 f624 f627 => ((ju_c _ _ f624).trans (hF_M a i f598 f606 f624 f627))) (fun i g2 => ((ju_c _ _ (by decide)).trans (hG_M i g2))) (by omega) (by omega) (by omega) (RG1.o hG1 rfl) hy1 (by omega) (by omega) ((((ju_c _ _ (by decide)).trans e4)).trans (by omega)) (TW.e hy5 (fun j => ((ju_c _ _ (by decide)).trans rfl))) (TW.e hy6 (fun j => ((ju_c _ _ (by decide)).trans rfl))) (by omega) (by omega) (by omega)
      · refine jr.aload_n rfl rfl ?_
        obtain ⟨v5, e5⟩ : ∃ z, M 598 2 = z := ⟨_, rfl⟩
        have b5 : 0 ≤ v5 ∧ v5 ≤ 2000000 := by rw [← e5]; exact hI_M 598 2 (Nat.le_of_ble_eq_true rfl)
        refine jr.getf (i := 2) (x := v5) (v := .int (Int32.ofInt (v5))) rfl rfl (nlt rfl) rfl (nlt rfl) rfl rfl e5 rfl ?_
        refine jr.aload_n rfl rfl ?_
        refine jr.getf (i := 38) (v := .ref 626) rfl rfl (nlt rfl) rfl (nlt rfl) rfl rfl rfl rfl ?_
        refine jr.iload_n rfl rfl ?_
        obtain ⟨v6, e6⟩ : ∃ z, M 626 j = z := ⟨_, rfl⟩
        have b6 : 0 ≤ v6 ∧ v6 ≤ 2000000 := by rw [← e6]; exact (by have q := hI_M 626 j (Nat.le_of_ble_eq_true rfl); rw [xri_row rfl rfl] at q; exact q)
        refine jr.iald (i := j) (x := v6) rfl (nlt rfl) rfl (Nat.le_of_ble_eq_true rfl) (by omega) (by omega) e6 ?_
        refine jr.isub rfl ?_
        refine jr.aload_n rfl rfl ?_
        refine jr.getf (i := 37) (v := .ref 625) rfl rfl (nlt rfl) rfl (nlt rfl) rfl rfl rfl rfl ?_
        refine jr.iload_n rfl rfl ?_
        refine jr.iald (i := j) (x := v2) rfl (nlt rfl) rfl (Nat.le_of_ble_eq_true rfl) (by omega) (by omega) e2 ?_
        refine jr.irem rfl (j_nz (by omega)) ?_
        have b7 : -2147483648 ≤ j_rem (v5 - v6) v2 ∧ j_rem (v5 - v6) v2 ≤ 2147483647 := jb_any _
        generalize j_rem (v5 - v6) v2 = v7 at b7 ⊢
        refine jr.if_ne rfl rfl (by first | (refine rgb (by assumption) ?_; exact rfl) | omega) (fun h160 => ?_) (fun h160 => ?_)
        · refine jr.iconst rfl ?_
          refine jr.istore (ls' := [_, _, _, _, _]) rfl (nlt rfl) rfl ?_
          refine jr.aload_n rfl rfl ?_
          refine jr.getf (i := 36) (v := .ref 624) rfl rfl (nlt rfl) rfl (nlt rfl) rfl rfl rfl rfl ?_
          refine jr.iload_n rfl rfl ?_
          refine jr.dup2 rfl ⟨rfl, rfl⟩ ?_
          obtain ⟨v8, e8⟩ : ∃ z, M 624 j = z := ⟨_, rfl⟩
          have b8 : 0 ≤ v8 ∧ v8 ≤ 1000 := by rw [← e8]; exact (by have q := hI_M 624 j (Nat.le_of_ble_eq_true rfl); rw [xri_row rfl rfl] at q; exact q)
          refine jr.iald (i := j) (x := v8) rfl (nlt rfl) rfl (Nat.le_of_ble_eq_true rfl) (by omega) (by omega) e8 ?_
          refine jr.iload rfl rfl ?_
          refine jr.if_eq rfl rfl (by first | exact rgl rfl | omega) (fun _ => ?_) (fun h => absurd (by decide) h)
          refine jr.iconst rfl ?_
          refine jr.iadd rfl ?_
          refine jr.iast (i := j) (x := (v8 + 0)) rfl (nlt rfl) rfl (Nat.le_of_ble_eq_true rfl) (by omega) (by omega) ?_
          refine jr.iinc (ls' := [_, _, _, _, _]) rfl rfl (nlt rfl) rfl ?_
          refine jr.goto rfl rfl ?_
          refine jr.pick (ls := [_, _, _, _]) [0, 2, 3, 4] rfl rfl ?_
          exact ih (nM - 1) (by omega) (ju M 624 j (v8 + 0)) (j + 1) k n (RI.u hI_M (a := 624) (i := j) (by rw [xri_row rfl rfl]; show (0 : Int) ≤ _ ∧ _ ≤ (1000 : Int); omega)) (RH.o hH_M (by decide) (by decide) (by decide)) (RF.o hS_M (by decide) (by decide))  (fun a i f598 f606 f624 f627 => ((ju_c _ _ f624).trans (hF_M a i f598 f606 f624 f627))) (fun i g2 => ((ju_c _ _ (by decide)).trans (hG_M i g2))) (by omega) (by omega) (by omega) (RG1.o hG1 rfl) hy1 (by omega) (by omega) ((((ju_c _ _ (by decide)).trans e5)).trans (by omega)) (TW.e hy5 (fun j => ((ju_c _ _ (by decide)).trans rfl))) (TW.e hy6 (fun j => ((ju_c _ _ (by decide)).trans rfl))) (by omega) (by omega) (by omega)
        · refine jr.iconst rfl ?_
          refine jr.goto rfl rfl ?_
          refine jr.istore (ls' := [_, _, _, _, _]) rfl (nlt rfl) rfl ?_
          refine jr.aload_n rfl rfl ?_
          refine jr.getf (i := 36) (v := .ref 624) rfl rfl (nlt rfl) rfl (nlt rfl) rfl rfl rfl rfl ?_
          refine jr.iload_n rfl rfl ?_
          refine jr.dup2 rfl ⟨rfl, rfl⟩ ?_
          obtain ⟨v9, e9⟩ : ∃ z, M 624 j = z := ⟨_, rfl⟩
          have b9 : 0 ≤ v9 ∧ v9 ≤ 1000 := by rw [← e9]; exact (by have q := hI_M 624 j (Nat.le_of_ble_eq_true rfl); rw [xri_row rfl rfl] at q; exact q)
          refine jr.iald (i := j) (x := v9) rfl (nlt rfl) rfl (Nat.le_of_ble_eq_true rfl) (by omega) (by omega) e9 ?_
          refine jr.iload rfl rfl ?_
          refine jr.if_eq rfl rfl (by first | exact rgl rfl | omega) (fun h => absurd h (by decide)) (fun _ => ?_)
          refine jr.aload_n rfl rfl ?_
          refine jr.getf (i := 36) (v := .ref 624) rfl rfl (nlt rfl) rfl (nlt rfl) rfl rfl rfl rfl ?_
          refine jr.iload_n rfl rfl ?_
          refine jr.iald (i := j) (x := v9) rfl (nlt rfl) rfl (Nat.le_of_ble_eq_true rfl) (by omega) (by omega) e9 ?_
          refine jr.aload_n rfl rfl ?_
          refine jr.getf (i := 35) (v := .ref 623) rfl rfl (nlt rfl) rfl (nlt rfl) rfl rfl rfl rfl ?_
          refine jr.iload_n rfl rfl ?_
          obtain ⟨v10, e10⟩ : ∃ z, M 623 j = z := ⟨_, rfl⟩
          have b10 : 0 ≤ v10 ∧ v10 ≤ 1000 := by rw [← e10]; exact (by have q := hI_M 623 j (Nat.le_of_ble_eq_true rfl); rw [xri_row rfl rfl] at q; exact q)
          refine jr.iald (i := j) (x := v10) rfl (nlt rfl) rfl (Nat.le_of_ble_eq_true rfl) (by omega) (by omega) e10 ?_
          refine jr.icmp_ge rfl rfl (by first | (refine rgb (by assumption) ?_; exact rfl) | omega) (by first | (refine rgb (by assumption) ?_; exact rfl) | omega) (fun h194 => ?_) (fun h194 => ?_)
          · refine jr.iconst rfl ?_
            refine jr.iadd rfl ?_
            refine jr.iast (i := j) (x := (v9 + 0)) rfl (nlt rfl) rfl (Nat.le_of_ble_eq_true rfl) (by omega) (by omega) ?_
            refine jr.iinc (ls' := [_, _, _, _, _]) rfl rfl (nlt rfl) rfl ?_
            refine jr.goto rfl rfl ?_
            refine jr.pick (ls := [_, _, _, _]) [0, 2, 3, 4] rfl rfl ?_
            exact ih (nM - 1) (by omega) (ju M 624 j (v9 + 0)) (j + 1) k n (RI.u hI_M (a := 624) (i := j) (by rw [xri_row rfl rfl]; show (0 : Int) ≤ _ ∧ _ ≤ (1000 : Int); omega)) (RH.o hH_M (by decide) (by decide) (by decide)) (RF.o hS_M (by decide) (by decide))  (fun a i f598 f606 f624 f627 => ((ju_c _ _ f624).trans (hF_M a i f598 f606 f624 f627))) (fun i g2 => ((ju_c _ _ (by decide)).trans (hG_M i g2))) (by omega) (by omega) (by omega) (RG1.o hG1 rfl) hy1 (by omega) (by omega) ((((ju_c _ _ (by decide)).trans e5)).trans (by omega)) (TW.e hy5 (fun j => ((ju_c _ _ (by decide)).trans rfl))) (TW.e hy6 (fun j => ((ju_c _ _ (by decide)).trans rfl))) (by omega) (by omega) (by omega)
          · refine jr.iconst rfl ?_
            refine jr.goto rfl rfl ?_
            refine jr.iadd rfl ?_
            refine jr.iast (i := j) (x := (v9 + 1)) rfl (nlt rfl) rfl (Nat.le_of_ble_eq_true rfl) (by omega) (by omega) ?_
            refine jr.iinc (ls' := [_, _, _, _, _]) rfl rfl (nlt rfl) rfl ?_
            refine jr.goto rfl rfl ?_
            refine jr.pick (ls := [_, _, _, _]) [0, 2, 3, 4] rfl rfl ?_
            exact ih (nM - 1) (by omega) (ju M 624 j (v9 + 1)) (j + 1) k n (RI.u hI_M (a := 624) (i := j) (by rw [xri_row rfl rfl]; show (0 : Int) ≤ _ ∧ _ ≤ (1000 : Int); omega)) (RH.o hH_M (by decide) (by decide) (by decide)) (RF.o hS_M (by decide) (by decide))  (fun a i f598 f606 f624 f627 => ((ju_c _ _ f624).trans (hF_M a i f598 f606 f624 f627))) (fun i g2 => ((ju_c _ _ (by decide)).trans (hG_M i g2))) (by omega) (by omega) (by omega) (RG1.o hG1 rfl) hy1 (by omega) (by omega) ((((ju_c _ _ (by decide)).trans e5)).trans (by omega)) (TW.e hy5 (fun j => ((ju_c _ _ (by decide)).trans rfl))) (TW.e hy6 (fun j => ((ju_c _ _ (by decide)).trans rfl))) (by omega) (by omega) (by omega)
theorem r_tick_L81_x {A : Nat → Option (Nat × (Nat → Int32))} {Q : Option Value → jm → Prop} {M0 : jm} {n0 : Int} (q : ∀ (r : Int) (M' : jm), RI M' → RH M' → RF M' → (-3) ≤ r ∧ r ≤ 2000000 → (((1 ≤ n0 ∧ n0 ≤ 1000) ∧ r = M0 598 2 + n0 ∧ M' 598 2 = M0 598 2 + n0 ∧ (∀ j : Int, 0 ≤ j → j < 8 → M' 606 j = if M0 612 j ≤ M0 598 2 + n0 then 0 else M0 606 j) ∧ (∀ j : Int, 0 ≤ j → j < 24 → M' 627 j = if M0 639 j ≤ M0 598 2 + n0 then 0 else M0 627 j)) ∨ (¬ (1 ≤ n0 ∧ n0 ≤ 1000) ∧ r = -3 ∧ M' = M0)) → RG1 M' → (∀ (a : Nat) (i : Int), a ≠ 598 → a ≠ 606 → a ≠ 624 → a ≠ 627 → M' a i = M0 a i) → (∀ (i : Int), i ≠ 2 → M' 598 i = M0 598 i) → Q (some (.int (Int32.ofInt r))) M') (nO : Nat) (ko : ∀ (M : jm) (k : Int) (n : Int), RI M → RH M → RF M → (∀ (a : Nat) (i : Int), a ≠ 598 → a ≠ 606 → a ≠ 624 → a ≠ 627 → M a i = M0 a i) → (∀ (i : Int), i ≠ 2 → M 598 i = M0 598 i) → 0 ≤ k ∧ k ≤ 1000 → 1 ≤ n ∧ n ≤ 1000 → RG1 M → RI M0 → k ≤ n → M 598 2 = M0 598 2 + k → TW M0 M 606 612 8 (k) (0) → TW M0 M 627 639 24 (k) (0) → 0 ≤ M0 598 2 ∧ M0 598 2 ≤ 1000000 → n = n0 → 1000 - k ≤ nO → jr A 1 xm_298 17 [(2, .int (Int32.ofInt (k))), (1, .int (Int32.ofInt (n))), (0, .ref (598))] [] M Q) : ∀ (nM : Nat) (M : jm) (j : Int) (k : Int) (n : Int), RI M → RH M → RF M → (∀ (a : Nat) (i : Int), a ≠ 598 → a ≠ 606 → a ≠ 624 → a ≠ 627 → M a i = M0 a i) → (∀ (i : Int), i ≠ 2 → M 598 i = M0 598 i) → 0 ≤ j ∧ j ≤ 24 → 0 ≤ k ∧ k ≤ 999 → 1 ≤ n ∧ n ≤ 1000 → RG1 M → RI M0 → 1000 - (k + 1) ≤ nO → k < n → M 598 2 = M0 598 2 + k + 1 → TW M0 M 606 612 8 (k + 1) (0) → TW M0 M 627 639 24 (k) (j) → 0 ≤ M0 598 2 ∧ M0 598 2 ≤ 1000000 → n = n0 → 24 - j ≤ nM → jr A 1 xm_298 81 [(3, .int (Int32.ofInt (j))), (2, .int (Int32.ofInt (k))), (1, .int (Int32.ofInt (n))), (0, .ref (598))] [] M Q := by
  intro nM
  induction nM using Nat.strongRecOn with
  | ind nM ih =>
    intro M j k n hI_M hH_M hS_M hF_M hG_M h_j h_k h_n hy0 hy1 hy2 hy3 hy4 hy5 hy6 hy7 hy8 hm
    subst hy8
    have hG1 := hy0
    have hI0 := hy1
    refine jr.iload_n rfl rfl ?_
    refine jr.bipush rfl (jbp _ (nlt rfl)) ?_
    refine jr.icmp_ge rfl rfl (by first | (refine rgb (by assumption) ?_; exact rfl) | omega) (rgl rfl) (fun h84 => ?_) (fun h84 => ?_)
    · refine jr.iconst rfl ?_
      refine jr.istore_n (ls' := [_, _, _, _]) rfl (nlt rfl) rfl ?_
      obtain ⟨v1, e1⟩ : ∃ z, M 598 2 = z := ⟨_, rfl⟩
      have b1 : 0 ≤ v1 ∧ v1 ≤ 2000000 := by rw [← e1]; exact hI_M 598 2 (Nat.le_of_ble_eq_true rfl)
      refine jr.pick (ls := [_, _, _, _]) [0, 1, 2, 3] rfl rfl ?_
      exact r_tick_L128_x q nO ko 4 M 0 k n hI_M hH_M hS_M  (fun a i f598 f606 f624 f627 => (hF_M a i f598 f606 f624 f627)) (fun i g2 => (hG_M i g2)) (by omega) (by omega) (by omega) hG1 hy1 (by omega) (by omega) ((e1).trans (by omega)) (TW.e hy5 (fun j => rfl)) (by have h9 := hy6; rw [show j = 24 from by omega] at h9; exact TW.n h9) (by omega) (by omega) (by omega)
    · refine jr.aload_n rfl rfl ?_
      refine jr.getf (i := 39) (v := .ref 627) rfl rfl (nlt rfl) rfl (nlt rfl) rfl rfl rfl rfl ?_
      refine jr.iload_n rfl rfl ?_
      refine jr.aload_n rfl rfl ?_
      refine jr.getf (i := 39) (v := .ref 627) rfl rfl (nlt rfl) rfl (nlt rfl) rfl rfl rfl rfl ?_
      refine jr.iload_n rfl rfl ?_
      obtain ⟨v2, e2⟩ : ∃ z, M 627 j = z := ⟨_, rfl⟩
      have b2 : 0 ≤ v2 ∧ v2 ≤ 1 := by rw [← e2]; exact (by have q := hI_M 627 j (Nat.le_of_ble_eq_true rfl); rw [xri_row rfl rfl] at q; exact q)
      refine jr.zald (i := j) (x := v2) rfl (nlt rfl) rfl (Nat.le_of_ble_eq_true rfl) (by omega) (by omega) e2 ?_
      refine jr.if_eq rfl rfl (by first | (refine rgb (by assumption) ?_; exact rfl) | omega) (fun h98 => ?_) (fun h98 => ?_)
      · refine jr.iconst rfl ?_
        refine jr.zast (i := j) (x := 0) rfl (nlt rfl) rfl (Nat.le_of_ble_eq_true rfl) (by omega) (by omega) (j_zn (by omega)) ?_
        refine jr.iinc (ls' := [_, _, _, _]) rfl rfl (nlt rfl) rfl ?_
        refine jr.goto rfl rfl ?_
        obtain ⟨v3, e3⟩ : ∃ z, M 598 2 = z := ⟨_, rfl⟩
        have b3 : 0 ≤ v3 ∧ v3 ≤ 2000000 := by rw [← e3]; exact hI_M 598 2 (Nat.le_of_ble_eq_true rfl)
        refine jr.pick (ls := [_, _, _, _]) [0, 1, 2, 3] rfl rfl ?_
        exact ih (nM - 1) (by omega) (ju M 627 j 0) (j + 1) k n (RI.u hI_M (a := 627) (i := j) (by rw [xri_row rfl rfl]; show (0 : Int) ≤ _ ∧ _ ≤ (1 : Int); omega)) (RH.o hH_M (by decide) (by decide) (by decide)) (RF.o hS_M (by decide) (by decide))  (fun a i f598 f606 f624 f627 => ((ju_c _ _ f627).trans (hF_M a i f598 f606 f624 f627))) (fun i g2 => ((ju_c _ _ (by decide)).trans (hG_M i g2))) (by omega) (by omega) (by omega) (RG1.o hG1 rfl) hy1 (by omega) (by omega) ((((ju_c _ _ (by decide)).trans e3)).trans (by omega)) (TW.e hy5 (fun j => ((ju_c _ _ (by decide)).trans rfl))) (TW.s hy6 (by omega) (by omega) (by have q := hI0 627 j (by decide); rw [xri_row rfl rfl] at q; exact q) (by rw [e2, if_neg (by omega)])) (by omega) (by omega) (by omega)
      · have sx98 : (1 : Int) ≤ v2 := by omega
        clear h98
        refine jr.aload_n rfl rfl ?_
        refine jr.getf (i := 51) (v := .ref 639) rfl rfl (nlt rfl) rfl (nlt rfl) rfl rfl rfl rfl ?_
        refine jr.iload_n rfl rfl ?_
        obtain ⟨v4, e4⟩ : ∃ z, M 639 j = z := ⟨_, rfl⟩
        have b4 : (-2147483648) ≤ v4 ∧ v4 ≤ 2147483647 := by rw [← e4]; exact (by have q := hI_M 639 j (Nat.le_of_ble_eq_true rfl); rw [xri_row rfl rfl] at q; exact q)
        refine jr.iald (i := j) (x := v4) rfl (nlt rfl) rfl (Nat.le_of_ble_eq_true rfl) (by omega) (by omega) e4 ?_
        refine jr.aload_n rfl rfl ?_
        obtain ⟨v5, e5⟩ : ∃ z, M 598 2 = z := ⟨_, rfl⟩
        have b5 : 0 ≤ v5 ∧ v5 ≤ 2000000 := by rw [← e5]; exact hI_M 598 2 (Nat.le_of_ble_eq_true rfl)
        refine jr.getf (i := 2) (x := v5) (v := .int (Int32.ofInt (v5))) rfl rfl (nlt rfl) rfl (nlt rfl) rfl rfl e5 rfl ?_
        refine jr.icmp_le rfl rfl (by first | (refine rgb (by assumption) ?_; exact rfl) | omega) (by first | (refine rgb (by assumption) ?_; exact rfl) | omega) (fun h111 => ?_) (fun h111 => ?_)
        · refine jr.iconst rfl ?_
          refine jr.zast (i := j) (x := 0) rfl (nlt rfl) rfl (Nat.le_of_ble_eq_true rfl) (by omega) (by omega) (j_zn (by omega)) ?_
          refine jr.iinc (ls' := [_, _, _, _]) rfl rfl (nlt rfl) rfl ?_
          refine jr.goto rfl rfl ?_
          refine jr.pick (ls := [_, _, _, _]) [0, 1, 2, 3] rfl rfl ?_
          exact ih (nM - 1) (by omega) (ju M 627 j 0) (j + 1) k n (RI.u hI_M (a := 627) (i := j) (by rw [xri_row rfl rfl]; show (0 : Int) ≤ _ ∧ _ ≤ (1 : Int); omega)) (RH.o hH_M (by decide) (by decide) (by decide)) (RF.o hS_M (by decide) (by decide))  (fun a i f598 f606 f624 f627 => ((ju_c _ _ f627).trans (hF_M a i f598 f606 f624 f627))) (fun i g2 => ((ju_c _ _ (by decide)).trans (hG_M i g2))) (by omega) (by omega) (by omega) (RG1.o hG1 rfl) hy1 (by omega) (by omega) ((((ju_c _ _ (by decide)).trans e5)).trans (by omega)) (TW.e hy5 (fun j => ((ju_c _ _ (by decide)).trans rfl))) (TW.s hy6 (by omega) (by omega) (by have q := hI0 627 j (by decide); rw [xri_row rfl rfl] at q; exact q) (by rw [e2, (show M0 639 j = v4 from (hF_M 639 j (nne rfl) (nne rfl) (nne rfl) (nne rfl)).symm.trans e4), if_neg (by omega)])) (by omega) (by omega) (by omega)
        · refine jr.iconst rfl ?_
          refine jr.goto rfl rfl ?_
          refine jr.zast (i := j) (x := 1) rfl (nlt rfl) rfl (Nat.le_of_ble_eq_true rfl) (by omega) (by omega) (j_zn (by omega)) ?_
          refine jr.iinc (ls' := [_, _, _, _]) rfl rfl (nlt rfl) rfl ?_
          refine jr.goto rfl rfl ?_
          refine jr.pick (ls := [_, _, _, _]) [0, 1, 2, 3] rfl rfl ?_
          exact ih (nM - 1) (by omega) (ju M 627 j 1) (j + 1) k n (RI.u hI_M (a := 627) (i := j) (by rw [xri_row rfl rfl]; show (0 : Int) ≤ _ ∧ _ ≤ (1 : Int); omega)) (RH.o hH_M (by decide) (by decide) (by decide)) (RF.o hS_M (by decide) (by decide))  (fun a i f598 f606 f624 f627 => ((ju_c _ _ f627).trans (hF_M a i f598 f606 f624 f627))) (fun i g2 => ((ju_c _ _ (by decide)).trans (hG_M i g2))) (by omega) (by omega) (by omega) (RG1.o hG1 rfl) hy1 (by omega) (by omega) ((((ju_c _ _ (by decide)).trans e5)).trans (by omega)) (TW.e hy5 (fun j => ((ju_c _ _ (by decide)).trans rfl))) (TW.s hy6 (by omega) (by omega) (by have q := hI0 627 j (by decide); rw [xri_row rfl rfl] at q; exact q) (by rw [e2, (show M0 639 j = v4 from (hF_M 639 j (nne rfl) (nne rfl) (nne rfl) (nne rfl)).symm.trans e4), if_pos ⟨by omega, by omega⟩])) (by omega) (by omega) (by omega)
theorem r_tick_L34_x {A : Nat → Option (Nat × (Nat → Int32))} {Q : Option Value → jm → Prop} {M0 : jm} {n0 : Int} (q : ∀ (r : Int) (M' : jm), RI M' → RH M' → RF M' → (-3) ≤ r ∧ r ≤ 2000000 → (((1 ≤ n0 ∧ n0 ≤ 1000) ∧ r = M0 598 2 + n0 ∧ M' 598 2 = M0 598 2 + n0 ∧ (∀ j : Int, 0 ≤ j → j < 8 → M' 606 j = if M0 612 j ≤ M0 598 2 + n0 then 0 else M0 606 j) ∧ (∀ j : Int, 0 ≤ j → j < 24 → M' 627 j = if M0 639 j ≤ M0 598 2 + n0 then 0 else M0 627 j)) ∨ (¬ (1 ≤ n0 ∧ n0 ≤ 1000) ∧ r = -3 ∧ M' = M0)) → RG1 M' → (∀ (a : Nat) (i : Int), a ≠ 598 → a ≠ 606 → a ≠ 624 → a ≠ 627 → M' a i = M0 a i) → (∀ (i : Int), i ≠ 2 → M' 598 i = M0 598 i) → Q (some (.int (Int32.ofInt r))) M') (nO : Nat) (ko : ∀ (M : jm) (k : Int) (n : Int), RI M → RH M → RF M → (∀ (a : Nat) (i : Int), a ≠ 598 → a ≠ 606 → a ≠ 624 → a ≠ 627 → M a i = M0 a i) → (∀ (i : Int), i ≠ 2 → M 598 i = M0 598 i) → 0 ≤ k ∧ k ≤ 1000 → 1 ≤ n ∧ n ≤ 1000 → RG1 M → RI M0 → k ≤ n → M 598 2 = M0 598 2 + k → TW M0 M 606 612 8 (k) (0) → TW M0 M 627 639 24 (k) (0) → 0 ≤ M0 598 2 ∧ M0 598 2 ≤ 1000000 → n = n0 → 1000 - k ≤ nO → jr A 1 xm_298 17 [(2, .int (Int32.ofInt (k))), (1, .int (Int32.ofInt (n))), (0, .ref (598))] [] M Q) : ∀ (nM : Nat) (M : jm) (j : Int) (k : Int) (n : Int), RI M → RH M → RF M → (∀ (a : Nat) (i : Int), a ≠ 598 → a ≠ 606 → a ≠ 624 → a ≠ 627 → M a i = M0 a i) → (∀ (i : Int), i ≠ 2 → M 598 i = M0 598 i) → 0 ≤ j ∧ j ≤ 8 → 0 ≤ k ∧ k ≤ 999 → 1 ≤ n ∧ n ≤ 1000 → RG1 M → RI M0 → 1000 - (k + 1) ≤ nO → k < n → M 598 2 = M0 598 2 + k + 1 → TW M0 M 606 612 8 (k) (j) → TW M0 M 627 639 24 (k) (0) → 0 ≤ M0 598 2 ∧ M0 598 2 ≤ 1000000 → n = n0 → 8 - j ≤ nM → jr A 1 xm_298 34 [(3, .int (Int32.ofInt (j))), (2, .int (Int32.ofInt (k))), (1, .int (Int32.ofInt (n))), (0, .ref (598))] [] M Q := by
  intro nM
  induction nM using Nat.strongRecOn with
  | ind nM ih =>
    intro M j k n hI_M hH_M hS_M hF_M hG_M h_j h_k h_n hy0 hy1 hy2 hy3 hy4 hy5 hy6 hy7 hy8 hm
    subst hy8
    have hG1 := hy0
    have hI0 := hy1
    refine jr.iload_n rfl rfl ?_
    refine jr.bipush rfl (jbp _ (nlt rfl)) ?_
    refine jr.icmp_ge rfl rfl (by first | (refine rgb (by assumption) ?_; exact rfl) | omega) (rgl rfl) (fun h37 => ?_) (fun h37 => ?_)
    · refine jr.iconst rfl ?_
      refine jr.istore_n (ls' := [_, _, _, _]) rfl (nlt rfl) rfl ?_
      obtain ⟨v1, e1⟩ : ∃ z, M 598 2 = z := ⟨_, rfl⟩
      have b1 : 0 ≤ v1 ∧ v1 ≤ 2000000 := by rw [← e1]; exact hI_M 598 2 (Nat.le_of_ble_eq_true rfl)
      refine jr.pick (ls := [_, _, _, _]) [0, 1, 2, 3] rfl rfl ?_
      exact r_tick_L81_x q nO ko 24 M 0 k n hI_M hH_M hS_M  (fun a i f598 f606 f624 f627 => (hF_M a i f598 f606 f624 f627)) (fun i g2 => (hG_M i g2)) (by omega) (by omega) (by omega) hG1 hy1 (by omega) (by omega) ((e1).trans (by omega)) (by have h9 := hy5; rw [show j = 8 from by omega] at h9; exact TW.n h9) (TW.e hy6 (fun j => rfl)) (by omega) (by omega) (by omega)
    · refine jr.aload_n rfl rfl ?_
      refine jr.getf (i := 17) (v := .ref 606) rfl rfl (nlt rfl) rfl (nlt rfl) rfl rfl rfl rfl ?_
      refine jr.iload_n rfl rfl ?_
      refine jr.aload_n rfl rfl ?_
      refine jr.getf (i := 17) (v := .ref 606) rfl rfl (nlt rfl) rfl (nlt rfl) rfl rfl rfl rfl ?_
      refine jr.iload_n rfl rfl ?_
      obtain ⟨v2, e2⟩ : ∃ z, M 606 j = z := ⟨_, rfl⟩
      have b2 : 0 ≤ v2 ∧ v2 ≤ 1 := by rw [← e2]; exact (by have q := hI_M 606 j (Nat.le_of_ble_eq_true rfl); rw [xri_row rfl rfl] at q; exact q)
      refine jr.zald (i := j) (x := v2) rfl (nlt rfl) rfl (Nat.le_of_ble_eq_true rfl) (by omega) (by omega) e2 ?_
      refine jr.if_eq rfl rfl (by first | (refine rgb (by assumption) ?_; exact rfl) | omega) (fun h51 => ?_) (fun h51 => ?_)
      · refine jr.iconst rfl ?_
        refine jr.zast (i := j) (x := 0) rfl (nlt rfl) rfl (Nat.le_of_ble_eq_true rfl) (by omega) (by omega) (j_zn (by omega)) ?_
        refine jr.iinc (ls' := [_, _, _, _]) rfl rfl (nlt rfl) rfl ?_
        refine jr.goto rfl rfl ?_
        obtain ⟨v3, e3⟩ : ∃ z, M 598 2 = z := ⟨_, rfl⟩
        have b3 : 0 ≤ v3 ∧ v3 ≤ 2000000 := by rw [← e3]; exact hI_M 598 2 (Nat.le_of_ble_eq_true rfl)
        refine jr.pick (ls := [_, _, _, _]) [0, 1, 2, 3] rfl rfl ?_
        exact ih (nM - 1) (by omega) (ju M 606 j 0) (j + 1) k n (RI.u hI_M (a := 606) (i := j) (by rw [xri_row rfl rfl]; show (0 : Int) ≤ _ ∧ _ ≤ (1 : Int); omega)) (RH.o hH_M (by decide) (by decide) (by decide)) (RF.o hS_M (by decide) (by decide))  (fun a i f598 f606 f624 f627 => ((ju_c _ _ f606).trans (hF_M a i f598 f606 f624 f627))) (fun i g2 => ((ju_c _ _ (by decide)).trans (hG_M i g2))) (by omega) (by omega) (by omega) (RG1.off hG1 _) hy1 (by omega) (by omega) ((((ju_c _ _ (by decide)).trans e3)).trans (by omega)) (TW.s hy5 (by omega) (by omega) (by have q := hI0 606 j (by decide); rw [xri_row rfl rfl] at q; exact q) (by rw [e2, if_neg (by omega)])) (TW.e hy6 (fun j => ((ju_c _ _ (by decide)).trans rfl))) (by omega) (by omega) (by omega)
      · have sx51 : (1 : Int) ≤ v2 := by omega
        clear h51
        refine jr.aload_n rfl rfl ?_
        refine jr.getf (i := 23) (v := .ref 612) rfl rfl (nlt rfl) rfl (nlt rfl) rfl rfl rfl rfl ?_
        refine jr.iload_n rfl rfl ?_
        obtain ⟨v4, e4⟩ : ∃ z, M 612 j = z := ⟨_, rfl⟩
        have b4 : 0 ≤ v4 ∧ v4 ≤ 2000030 := by rw [← e4]; exact (by have q := hI_M 612 j (Nat.le_of_ble_eq_true rfl); rw [xri_row rfl rfl] at q; exact q)
        refine jr.iald (i := j) (x := v4) rfl (nlt rfl) rfl (Nat.le_of_ble_eq_true rfl) (by omega) (by omega) e4 ?_
        refine jr.aload_n rfl rfl ?_
        obtain ⟨v5, e5⟩ : ∃ z, M 598 2 = z := ⟨_, rfl⟩
        have b5 : 0 ≤ v5 ∧ v5 ≤ 2000000 := by rw [← e5]; exact hI_M 598 2 (Nat.le_of_ble_eq_true rfl)
        refine jr.getf (i := 2) (x := v5) (v := .int (Int32.ofInt (v5))) rfl rfl (nlt rfl) rfl (nlt rfl) rfl rfl e5 rfl ?_
        refine jr.icmp_le rfl rfl (by first | (refine rgb (by assumption) ?_; exact rfl) | omega) (by first | (refine rgb (by assumption) ?_; exact rfl) | omega) (fun h64 => ?_) (fun h64 => ?_)
        · refine jr.iconst rfl ?_
          refine jr.zast (i := j) (x := 0) rfl (nlt rfl) rfl (Nat.le_of_ble_eq_true rfl) (by omega) (by omega) (j_zn (by omega)) ?_
          refine jr.iinc (ls' := [_, _, _, _]) rfl rfl (nlt rfl) rfl ?_
          refine jr.goto rfl rfl ?_
          refine jr.pick (ls := [_, _, _, _]) [0, 1, 2, 3] rfl rfl ?_
          exact ih (nM - 1) (by omega) (ju M 606 j 0) (j + 1) k n (RI.u hI_M (a := 606) (i := j) (by rw [xri_row rfl rfl]; show (0 : Int) ≤ _ ∧ _ ≤ (1 : Int); omega)) (RH.o hH_M (by decide) (by decide) (by decide)) (RF.o hS_M (by decide) (by decide))  (fun a i f598 f606 f624 f627 => ((ju_c _ _ f606).trans (hF_M a i f598 f606 f624 f627))) (fun i g2 => ((ju_c _ _ (by decide)).trans (hG_M i g2))) (by omega) (by omega) (by omega) (RG1.off hG1 _) hy1 (by omega) (by omega) ((((ju_c _ _ (by decide)).trans e5)).trans (by omega)) (TW.s hy5 (by omega) (by omega) (by have q := hI0 606 j (by decide); rw [xri_row rfl rfl] at q; exact q) (by rw [e2, (show M0 612 j = v4 from (hF_M 612 j (nne rfl) (nne rfl) (nne rfl) (nne rfl)).symm.trans e4), if_neg (by omega)])) (TW.e hy6 (fun j => ((ju_c _ _ (by decide)).trans rfl))) (by omega) (by omega) (by omega)
        · refine jr.iconst rfl ?_
          refine jr.goto rfl rfl ?_
          refine jr.zast (i := j) (x := 1) rfl (nlt rfl) rfl (Nat.le_of_ble_eq_true rfl) (by omega) (by omega) (j_zn (by omega)) ?_
          refine jr.iinc (ls' := [_, _, _, _]) rfl rfl (nlt rfl) rfl ?_
          refine jr.goto rfl rfl ?_
          refine jr.pick (ls := [_, _, _, _]) [0, 1, 2, 3] rfl rfl ?_
          exact ih (nM - 1) (by omega) (ju M 606 j 1) (j + 1) k n (RI.u hI_M (a := 606) (i := j) (by rw [xri_row rfl rfl]; show (0 : Int) ≤ _ ∧ _ ≤ (1 : Int); omega)) (RH.o hH_M (by decide) (by decide) (by decide)) (RF.o hS_M (by decide) (by decide))  (fun a i f598 f606 f624 f627 => ((ju_c _ _ f606).trans (hF_M a i f598 f606 f624 f627))) (fun i g2 => ((ju_c _ _ (by decide)).trans (hG_M i g2))) (by omega) (by omega) (by omega) (RG1.keepx hG1 (by have hq : M 606 j = v2 := e2; omega)) hy1 (by omega) (by omega) ((((ju_c _ _ (by decide)).trans e5)).trans (by omega)) (TW.s hy5 (by omega) (by omega) (by have q := hI0 606 j (by decide); rw [xri_row rfl rfl] at q; exact q) (by rw [e2, (show M0 612 j = v4 from (hF_M 612 j (nne rfl) (nne rfl) (nne rfl) (nne rfl)).symm.trans e4), if_pos ⟨by omega, by omega⟩])) (TW.e hy6 (fun j => ((ju_c _ _ (by decide)).trans rfl))) (by omega) (by omega) (by omega)
theorem r_tick_L17_x {A : Nat → Option (Nat × (Nat → Int32))} {Q : Option Value → jm → Prop} {M0 : jm} {n0 : Int} (q : ∀ (r : Int) (M' : jm), RI M' → RH M' → RF M' → (-3) ≤ r ∧ r ≤ 2000000 → (((1 ≤ n0 ∧ n0 ≤ 1000) ∧ r = M0 598 2 + n0 ∧ M' 598 2 = M0 598 2 + n0 ∧ (∀ j : Int, 0 ≤ j → j < 8 → M' 606 j = if M0 612 j ≤ M0 598 2 + n0 then 0 else M0 606 j) ∧ (∀ j : Int, 0 ≤ j → j < 24 → M' 627 j = if M0 639 j ≤ M0 598 2 + n0 then 0 else M0 627 j)) ∨ (¬ (1 ≤ n0 ∧ n0 ≤ 1000) ∧ r = -3 ∧ M' = M0)) → RG1 M' → (∀ (a : Nat) (i : Int), a ≠ 598 → a ≠ 606 → a ≠ 624 → a ≠ 627 → M' a i = M0 a i) → (∀ (i : Int), i ≠ 2 → M' 598 i = M0 598 i) → Q (some (.int (Int32.ofInt r))) M') : ∀ (nM : Nat) (M : jm) (k : Int) (n : Int), RI M → RH M → RF M → (∀ (a : Nat) (i : Int), a ≠ 598 → a ≠ 606 → a ≠ 624 → a ≠ 627 → M a i = M0 a i) → (∀ (i : Int), i ≠ 2 → M 598 i = M0 598 i) → 0 ≤ k ∧ k ≤ 1000 → 1 ≤ n ∧ n ≤ 1000 → RG1 M → RI M0 → k ≤ n → M 598 2 = M0 598 2 + k → TW M0 M 606 612 8 (k) (0) → TW M0 M 627 639 24 (k) (0) → 0 ≤ M0 598 2 ∧ M0 598 2 ≤ 1000000 → n = n0 → 1000 - k ≤ nM → jr A 1 xm_298 17 [(2, .int (Int32.ofInt (k))), (1, .int (Int32.ofInt (n))), (0, .ref (598))] [] M Q := by
  intro nM
  induction nM using Nat.strongRecOn with
  | ind nM ih =>
    intro M k n hI_M hH_M hS_M hF_M hG_M h_k h_n hy0 hy1 hy2 hy3 hy4 hy5 hy6 hy7 hm
    subst hy7
    have hG1 := hy0
    have hI0 := hy1
    refine jr.iload_n rfl rfl ?_
    refine jr.iload_n rfl rfl ?_
    refine jr.icmp_ge rfl rfl (by first | (refine rgb (by assumption) ?_; exact rfl) | omega) (by first | (refine rgb (by assumption) ?_; exact rfl) | omega) (fun h19 => ?_) (fun h19 => ?_)
    · refine jr.aload_n rfl rfl ?_
      obtain ⟨v1, e1⟩ : ∃ z, M 598 2 = z := ⟨_, rfl⟩
      have b1 : 0 ≤ v1 ∧ v1 ≤ 2000000 := by rw [← e1]; exact hI_M 598 2 (Nat.le_of_ble_eq_true rfl)
      refine jr.getf (i := 2) (x := v1) (v := .int (Int32.ofInt (v1))) rfl rfl (nlt rfl) rfl (nlt rfl) rfl rfl e1 rfl ?_
      exact jr.ireturn rfl rfl rfl (q _ _ hI_M hH_M hS_M  (by omega) (by have h4 := hy4; have h5 := hy5; rw [show k = n from by omega] at h4 h5; exact Or.inl ⟨by omega, by omega, by omega, TW.f h4 (by omega), TW.f h5 (by omega)⟩) hG1 (fun a i f598 f606 f624 f627 => (hF_M a i f598 f606 f624 f627)) (fun i g2 => (hG_M i g2)))
    · refine jr.aload_n rfl rfl ?_
      refine jr.dup rfl rfl ?_
      obtain ⟨v2, e2⟩ : ∃ z, M 598 2 = z := ⟨_, rfl⟩
      have b2 : 0 ≤ v2 ∧ v2 ≤ 2000000 := by rw [← e2]; exact hI_M 598 2 (Nat.le_of_ble_eq_true rfl)
      refine jr.getf (i := 2) (x := v2) (v := .int (Int32.ofInt (v2))) rfl rfl (nlt rfl) rfl (nlt rfl) rfl rfl e2 rfl ?_
      refine jr.iconst rfl ?_
      refine jr.iadd rfl ?_
      refine jr.putf (i := 2) (x := (v2 + 1)) rfl rfl (nlt rfl) rfl (nlt rfl) rfl rfl rfl rfl rfl ?_
      refine jr.iconst rfl ?_
      refine jr.istore_n (ls' := [_, _, _, _]) rfl (nlt rfl) rfl ?_
      refine jr.pick (ls := [_, _, _, _]) [0, 1, 2, 3] rfl rfl ?_
      exact r_tick_L34_x q (nM - 1) (ih (nM - 1) (by omega)) 8 (ju M 598 2 (v2 + 1)) 0 k n (RI.u hI_M (a := 598) (i := 2) (show (0 : Int) ≤ _ ∧ _ ≤ (2000000 : Int) from by omega)) (RH.o hH_M (by decide) (by decide) (by decide)) (RF.o hS_M (by decide) (by decide))  (fun a i f598 f606 f624 f627 => ((ju_c _ _ f598).trans (hF_M a i f598 f606 f624 f627))) (fun i g2 => ((ju_i _ _ g2).trans (hG_M i g2))) (by omega) (by omega) (by omega) (RG1.o hG1 rfl) hy1 (by omega) (by omega) (((ju_same _ _ _ _)).trans (by omega)) (TW.e hy4 (fun j => ((ju_c _ _ (by decide)).trans rfl))) (TW.e hy5 (fun j => ((ju_c _ _ (by decide)).trans rfl))) (by omega) (by omega) (by omega)
theorem r_tick_x {A : Nat → Option (Nat × (Nat → Int32))} {Q : Option Value → jm → Prop} {M : jm} (hI_M : RI M) (hH_M : RH M) (hS_M : RF M) {n : Int} (h_n : (-2147483648) ≤ n ∧ n ≤ 2147483647) (p0 : 0 ≤ M 598 2 ∧ M 598 2 ≤ 1000000) (p1 : RG1 M) (q : ∀ (r : Int) (M' : jm), RI M' → RH M' → RF M' → (-3) ≤ r ∧ r ≤ 2000000 → (((1 ≤ n ∧ n ≤ 1000) ∧ r = M 598 2 + n ∧ M' 598 2 = M 598 2 + n ∧ (∀ j : Int, 0 ≤ j → j < 8 → M' 606 j = if M 612 j ≤ M 598 2 + n then 0 else M 606 j) ∧ (∀ j : Int, 0 ≤ j → j < 24 → M' 627 j = if M 639 j ≤ M 598 2 + n then 0 else M 627 j)) ∨ (¬ (1 ≤ n ∧ n ≤ 1000) ∧ r = -3 ∧ M' = M)) → RG1 M' → (∀ (a : Nat) (i : Int), a ≠ 598 → a ≠ 606 → a ≠ 624 → a ≠ 627 → M' a i = M a i) → (∀ (i : Int), i ≠ 2 → M' 598 i = M 598 i) → Q (some (.int (Int32.ofInt r))) M') : jc A 2 298 [.ref (598), .int (Int32.ofInt (n))] M Q := by
  have hG1 := p1
  refine jc_of (m := xm_298) rfl (Nat.le_of_ble_eq_true rfl) rfl ?_
  refine jr.iload_n rfl rfl ?_
  refine jr.i2l rfl (by omega) ?_
  refine jr.lconst (x := 1) rfl (by decide) ?_
  refine jr.ldc2 (x := 1000) rfl rfl (by decide) ?_
  refine jr_s rfl rfl (Or.inl rfl) ⟨Nat.le_of_ble_eq_true rfl, Nat.le_of_ble_eq_true rfl⟩ rfl rfl (jc.deep (c_within (by omega) (by omega) (by omega) (fun l6 u6 => ?_) (fun n6 => ?_)) (Nat.le_of_ble_eq_true rfl))
  · refine jr.if_ne rfl rfl (by first | exact rgl rfl | omega) (fun _ => ?_) (fun h => absurd (by decide) h)
    refine jr.iconst rfl ?_
    refine jr.istore_n (ls' := [_, _, _]) rfl (nlt rfl) rfl ?_
    obtain ⟨v1, e1⟩ : ∃ z, M 598 2 = z := ⟨_, rfl⟩
    have b1 : 0 ≤ v1 ∧ v1 ≤ 2000000 := by rw [← e1]; exact hI_M 598 2 (Nat.le_of_ble_eq_true rfl)
    refine jr.pick (ls := [_, _, _]) [0, 2, 1] rfl rfl ?_
    exact r_tick_L17_x q 1000 M 0 n hI_M hH_M hS_M  (fun a i f598 f606 f624 f627 => rfl) (fun i g2 => rfl) (by omega) (by omega) hG1 hI_M (by omega) ((e1).trans (by omega)) TW.z TW.z (by omega) (by omega) (by omega)
  · refine jr.if_ne rfl rfl (by first | exact rgl rfl | omega) (fun h => absurd h (by decide)) (fun _ => ?_)
    refine jr.bipush rfl (by decide) ?_
    exact jr.ireturn rfl rfl rfl (q _ _ hI_M hH_M hS_M  (by first | exact rgq rfl | omega) (Or.inr ⟨by omega, by omega, rfl⟩) hG1 (fun a i f598 f606 f624 f627 => rfl) (fun i g2 => rfl))
end
section
/-! ===== the data of both sides are the same ===== -/
noncomputable def RDt (C R : jm) : Prop := C 1 = R 599 ∧ C 0 1 = R 598 1
noncomputable def RDp (C R : jm) : Prop := ∀ p : Int, 0 ≤ p → p < 24 → C (xe 2 p) 1 = R 600 p ∧ ∀ i : Int, 0 ≤ i → i < 400 → C (xe 2 p + 1) i = R 601 (400 * p + i)
noncomputable def RDf (C R : jm) : Prop := C 9 0 = (if R 598 13 = -1 then 0 else R 598 13) ∧ C 9 1 = R 598 14 ∧ C 9 2 = R 598 15 ∧ C 9 3 = R 598 16
noncomputable def RDl (C R : jm) : Prop := ∀ i : Int, 0 ≤ i → i < 5 → C 14 i = if R 598 34 = 0 then -1 else R 622 i
noncomputable def RDo (C R : jm) : Prop := (∀ y : Int, 0 ≤ C 27 y ∧ C 27 y ≤ 65535) ∧ ∀ k : Int, 0 ≤ k → k < 4 → (R 643 k = 0 → C 28 k = 0) ∧ (R 643 k ≠ 0 → C 26 k = R 644 k ∧ C 27 k = R 645 k ∧ C 28 k = R 646 k ∧ 1 ≤ C 28 k)
/-- a flow that lives -/
noncomputable def FL (C R : jm) (t : Nat) (f : Int) : Prop := (C t 1 = R 628 f ∧ C t 2 = R 629 f ∧ C t 5 = R 638 f ∧ C t 6 = R 639 f ∧ C t 13 = R 640 f) ∧ (∀ s : Int, 0 ≤ s → s < 2 → (C (t + 1) s = R 630 (2 * f + s) ∧ C (t + 2) s = R 631 (2 * f + s) ∧ C (t + 5) s = R 635 (2 * f + s)) ∧ (C (t + 6) s = R 636 (2 * f + s) ∧ C (t + 7) s = R 637 (2 * f + s)) ∧ C (t + 4) s = R 632 (2 * f + s) ∧ C (t + 3) s = l6x R (2 * f + s)) ∧ (C t 12 = R 634 (2 * f + 1) ∧ R 634 (2 * f) = 1) ∧ ((R 640 f = -1 ∧ C t 15 = -1) ∨ (R 640 f ≠ -1 ∧ C t 14 = R 641 f ∧ C t 15 = R 642 f ∧ R 628 f = 0 ∧ R 629 f ≠ 1)) ∧ stOK (R 629 f) (R 638 f)
noncomputable def FR1 (C R : jm) (t : Nat) (f : Int) : Prop := C t 0 = R 627 f ∧ (R 627 f ≠ 0 → FL C R t f)
noncomputable def RDw (C R : jm) : Prop := ((16 ≤ C 15 0 ∧ C 15 0 ≤ 17) ∧ C 15 0 + C 15 1 = 33) ∧ ∀ f : Int, 0 ≤ f → f < 24 → FR1 C R (xe (C 15 0).toNat f) f
/-- a gathering that lives -/
noncomputable def GL (C R : jm) (G : Nat) (g : Int) : Prop := (C G 1 = R 607 g ∧ C G 2 = R 608 g ∧ C G 3 = R 609 g ∧ C G 4 = R 610 g ∧ C G 5 = R 611 g ∧ C G 6 = R 612 g) ∧ (R 607 g = 2 ∨ R 607 g = 6) ∧ (C G 7 = R 614 g ∧ R 613 g = rbf (C G 7) (C G 8) ∧ (C G 7 = -1 ∨ (0 ≤ C G 7 ∧ C G 7 ≤ 360))) ∧ (∀ k : Int, 0 ≤ k → k < lpf (C G 7) → C (G + 1) k = wR R g k) ∧ C G 11 = R 617 g ∧ (R 617 g ≠ -1 → (∀ k : Int, 0 ≤ k → k < R 617 g → C (G + 2) k = R 618 (400 * g + k)) ∧ C G 12 = R 621 g ∧ (R 607 g = 6 → C G 13 = R 620 g ∧ R 618 (400 * g + R 619 g) = R 611 g) ∧ (R 607 g = 2 → R 617 g = R 621 g + 4 * (R 618 (400 * g + R 621 g) % 16) ∧ R 621 g + 20 ≤ R 617 g))
noncomputable def GR1 (C R : jm) (G : Nat) (g : Int) : Prop := C G 0 = R 606 g ∧ (R 606 g ≠ 0 → GL C R G g)
/-- names of gatherings differ -/
noncomputable def UN (R : jm) : Prop := ∀ g h : Int, 0 ≤ g → g < 8 → 0 ≤ h → h < 8 → R 606 g ≠ 0 → R 606 h ≠ 0 → (R 607 g = R 607 h ∧ R 608 g = R 608 h ∧ R 609 g = R 609 h ∧ R 610 g = R 610 h ∧ R 611 g = R 611 h) → g = h
noncomputable def RDg (C R : jm) : Prop := UN R ∧ ∀ g : Int, 0 ≤ g → g < 8 → GR1 C R (xe 10 g) g
noncomputable def RDA (C R : jm) : Prop := RDt C R ∧ RDp C R ∧ RDf C R ∧ RDl C R ∧ RDo C R ∧ RDw C R ∧ RDg C R
theorem xpk0 : ∀ n : Nat, n < 24 → xe 2 (n : Int) = 526 + 2 * n := by decide +kernel
theorem xpk {g : Int} (h : 0 ≤ g ∧ g < 24) : xe 2 g = 526 + 2 * g.toNat := by
  obtain ⟨n, rfl⟩ := Int.eq_ofNat_of_zero_le h.1
  exact xpk0 n (by omega)
theorem kP {p : Int} (h0 : 0 ≤ p) (h1 : p < 24) : kd (xe 2 p) = 33 ∧ kd (xe 2 p + 1) = 34 := by
  have k := (kxe_42 (show kd 2 = 42 from rfl) h0 h1).2
  exact ⟨k, (kf_33_0 k).2⟩
/-! frames: the class's cells -/
theorem RDt.f {W : List (Nat × Nat)} {C D R : jm} (h : RDt C R) (f : FR W C D) (s : ksep W [(35, 1), (43, 1000)] = true) : RDt D R := by
  refine ⟨?_, ?_⟩
  · rw [← h.1]
    exact funext (fun i => f.s s (show kd 1 = 43 from rfl) 1000 (by decide) i (Or.inl rfl))
  · rw [← h.2]
    exact f.s s (show kd 0 = 35 from rfl) 1 (by decide) 1 (Or.inr rfl)
theorem RDp.f {W : List (Nat × Nat)} {C D R : jm} (h : RDp C R) (f : FR W C D) (s : ksep W [(33, 1), (34, 1000)] = true) : RDp D R := fun p p0 p1 => by
  have k := kP p0 p1
  refine ⟨?_, fun i i0 i1 => ?_⟩
  · rw [f.s s k.1 1 (by decide) 1 (Or.inr rfl)]; exact (h p p0 p1).1
  · rw [f.s s k.2 1000 (by decide) i (Or.inl rfl)]; exact (h p p0 p1).2 i i0 i1
theorem RDf.f {W : List (Nat × Nat)} {C D R : jm} (h : RDf C R) (f : FR W C D) (s : ksep W [(39, 1000)] = true) : RDf D R := by
  have e : ∀ i : Int, D 9 i = C 9 i := fun i => f.s s (show kd 9 = 39 from rfl) 1000 (by decide) i (Or.inl rfl)
  unfold RDf
  rw [e, e, e, e]
  exact h
theorem RDl.f {W : List (Nat × Nat)} {C D R : jm} (h : RDl C R) (f : FR W C D) (s : ksep W [(41, 1000)] = true) : RDl D R := fun i i0 i1 => by
  rw [f.s s (show kd 14 = 41 from rfl) 1000 (by decide) i (Or.inl rfl)]
  exact h i i0 i1
theorem RDo.f {W : List (Nat × Nat)} {C D R : jm} (h : RDo C R) (f : FR W C D) (s : ksep W [(10, 1000), (11, 1000), (12, 1000)] = true) : RDo D R := by
  have e1 : ∀ i : Int, D 26 i = C 26 i := fun i => f.s s (show kd 26 = 10 from rfl) 1000 (by decide) i (Or.inl rfl)
  have e2 : ∀ i : Int, D 27 i = C 27 i := fun i => f.s s (show kd 27 = 11 from rfl) 1000 (by decide) i (Or.inl rfl)
  have e3 : ∀ i : Int, D 28 i = C 28 i := fun i => f.s s (show kd 28 = 12 from rfl) 1000 (by decide) i (Or.inl rfl)
  refine ⟨fun y => by rw [e2]; exact h.1 y, fun k k0 k1 => ?_⟩
  rw [e1, e2, e3]
  exact h.2 k k0 k1
theorem FL.e {C D R : jm} {t : Nat} {f : Int} (h : FL C R t f) (e0 : ∀ k : Int, k = 1 ∨ k = 2 ∨ k = 5 ∨ k = 6 ∨ k = 12 ∨ k = 13 ∨ k = 14 ∨ k = 15 → D t k = C t k) (e : ∀ (d : Nat) (k : Int), 1 ≤ d → d ≤ 7 → D (t + d) k = C (t + d) k) : FL D R t f := by
  obtain ⟨h1, h2, h3, h4, h5⟩ := h
  refine ⟨?_, fun s s0 s1 => ?_, ?_, ?_, h5⟩
  · rw [e0 1 (by decide), e0 2 (by decide), e0 5 (by decide), e0 6 (by decide), e0 13 (by decide)]; exact h1
  · rw [e 1 s (by decide) (by decide), e 2 s (by decide) (by decide), e 3 s (by decide) (by decide), e 4 s (by decide) (by decide), e 5 s (by decide) (by decide), e 6 s (by decide) (by decide), e 7 s (by decide) (by decide)]; exact h2 s s0 s1
  · rw [e0 12 (by decide)]; exact h3
  · rw [e0 14 (by decide), e0 15 (by decide)]; exact h4
theorem kF {t : Nat} (k : kd t = 1) : kd (t + 1) = 2 ∧ kd (t + 2) = 7 ∧ kd (t + 3) = 5 ∧ kd (t + 4) = 4 ∧ kd (t + 5) = 8 ∧ kd (t + 6) = 6 ∧ kd (t + 7) = 3 := ⟨(kf_1_3 k).2, (kf_1_4 k).2, (kf_1_7 k).2, (kf_1_8 k).2, (kf_1_9 k).2, (kf_1_10 k).2, (kf_1_11 k).2⟩
theorem RDw.f {W : List (Nat × Nat)} {C D R : jm} (h : RDw C R) (f : FR W C D) (s : ksep W [(1, 0), (1, 1), (1, 2), (1, 5), (1, 6), (1, 12), (1, 13), (1, 14), (1, 15), (2, 1000), (3, 1000), (4, 1000), (5, 1000), (6, 1000), (7, 1000), (8, 1000), (9, 0), (9, 1)] = true) : RDw D R := by
  have e0 : D 15 0 = C 15 0 := f.s s (show kd 15 = 9 from rfl) 0 (by decide) 0 (Or.inr rfl)
  have e1 : D 15 1 = C 15 1 := f.s s (show kd 15 = 9 from rfl) 1 (by decide) 1 (Or.inr rfl)
  refine ⟨by rw [e0, e1]; exact h.1, fun i i0 i1 => ?_⟩
  rw [e0]
  have k := kV h.1.1 i0 i1
  have kf := kF k
  have q := h.2 i i0 i1
  refine ⟨by rw [f.s s k 0 (by decide) 0 (Or.inr rfl)]; exact q.1, fun u => (q.2 u).e (fun j hj => ?_) (fun d j d0 d1 => ?_)⟩
  · rcases hj with rfl | rfl | rfl | rfl | rfl | rfl | rfl | rfl
    · exact f.s s k 1 (by decide) 1 (Or.inr rfl)
    · exact f.s s k 2 (by decide) 2 (Or.inr rfl)
    · exact f.s s k 5 (by decide) 5 (Or.inr rfl)
    · exact f.s s k 6 (by decide) 6 (Or.inr rfl)
    · exact f.s s k 12 (by decide) 12 (Or.inr rfl)
    · exact f.s s k 13 (by decide) 13 (Or.inr rfl)
    · exact f.s s k 14 (by decide) 14 (Or.inr rfl)
    · exact f.s s k 15 (by decide) 15 (Or.inr rfl)
  · rcases (show d = 1 ∨ d = 2 ∨ d = 3 ∨ d = 4 ∨ d = 5 ∨ d = 6 ∨ d = 7 by omega) with rfl | rfl | rfl | rfl | rfl | rfl | rfl
    · exact f.s s kf.1 1000 (by decide) j (Or.inl rfl)
    · exact f.s s kf.2.1 1000 (by decide) j (Or.inl rfl)
    · exact f.s s kf.2.2.1 1000 (by decide) j (Or.inl rfl)
    · exact f.s s kf.2.2.2.1 1000 (by decide) j (Or.inl rfl)
    · exact f.s s kf.2.2.2.2.1 1000 (by decide) j (Or.inl rfl)
    · exact f.s s kf.2.2.2.2.2.1 1000 (by decide) j (Or.inl rfl)
    · exact f.s s kf.2.2.2.2.2.2 1000 (by decide) j (Or.inl rfl)
/-- flows whose cells are as they were -/
theorem RDw.e {C D R : jm} (h : RDw C R) (e : ∀ (b : Nat) (k : Int), 29 ≤ b → b ≤ 412 → D b k = C b k) (e0 : D 15 0 = C 15 0) (e1 : D 15 1 = C 15 1) : RDw D R := by
  refine ⟨by rw [e0, e1]; exact h.1, fun i i0 i1 => ?_⟩
  rw [e0]
  have x := xfl (V := C 15 0) h.1.1 ⟨i0, i1⟩
  have q := h.2 i i0 i1
  exact ⟨by rw [e _ 0 (by omega) (by omega)]; exact q.1, fun u => (q.2 u).e (fun j _ => e _ j (by omega) (by omega)) (fun d j d0 d1 => e _ j (by omega) (by omega))⟩
theorem GL.e {C D R : jm} {G : Nat} {g : Int} (h : GL C R G g) (e0 : ∀ k : Int, k = 1 ∨ k = 2 ∨ k = 3 ∨ k = 4 ∨ k = 5 ∨ k = 6 ∨ k = 7 ∨ k = 8 ∨ k = 11 ∨ k = 12 ∨ k = 13 → D G k = C G k) (e1 : ∀ k : Int, D (G + 1) k = C (G + 1) k) (e2 : ∀ k : Int, D (G + 2) k = C (G + 2) k) : GL D R G g := by
  unfold GL at h ⊢
  simp only [e0 1 (by decide), e0 2 (by decide), e0 3 (by decide), e0 4 (by decide), e0 5 (by decide), e0 6 (by decide), e0 7 (by decide), e0 8 (by decide), e0 11 (by decide), e0 12 (by decide), e0 13 (by decide), e1, e2]
  exact h
theorem RDg.f {W : List (Nat × Nat)} {C D R : jm} (h : RDg C R) (f : FR W C D) (s : ksep W [(15, 0), (15, 1), (15, 2), (15, 3), (15, 4), (15, 5), (15, 6), (15, 7), (15, 8), (15, 11), (15, 12), (15, 13), (16, 1000), (17, 1000)] = true) : RDg D R := by
  refine ⟨h.1, fun g g0 g1 => ?_⟩
  have k := kGa g0 g1
  have k1 := (kf_15_9 k).2
  have k2 := (kf_15_10 k).2
  have q := h.2 g g0 g1
  refine ⟨by rw [f.s s k 0 (by decide) 0 (Or.inr rfl)]; exact q.1, fun u => (q.2 u).e (fun j hj => ?_) (fun j => f.s s k1 1000 (by decide) j (Or.inl rfl)) (fun j => f.s s k2 1000 (by decide) j (Or.inl rfl))⟩
  rcases hj with rfl | rfl | rfl | rfl | rfl | rfl | rfl | rfl | rfl | rfl | rfl
  · exact f.s s k 1 (by decide) 1 (Or.inr rfl)
  · exact f.s s k 2 (by decide) 2 (Or.inr rfl)
  · exact f.s s k 3 (by decide) 3 (Or.inr rfl)
  · exact f.s s k 4 (by decide) 4 (Or.inr rfl)
  · exact f.s s k 5 (by decide) 5 (Or.inr rfl)
  · exact f.s s k 6 (by decide) 6 (Or.inr rfl)
  · exact f.s s k 7 (by decide) 7 (Or.inr rfl)
  · exact f.s s k 8 (by decide) 8 (Or.inr rfl)
  · exact f.s s k 11 (by decide) 11 (Or.inr rfl)
  · exact f.s s k 12 (by decide) 12 (Or.inr rfl)
  · exact f.s s k 13 (by decide) 13 (Or.inr rfl)
/-! frames: the reference's cells -/
theorem RDt.r {C R S : jm} (h : RDt C R) (e : ∀ i : Int, S 599 i = R 599 i) (e1 : S 598 1 = R 598 1) : RDt C S := ⟨h.1.trans (funext (fun i => (e i).symm)), h.2.trans e1.symm⟩
theorem RDp.r {C R S : jm} (h : RDp C R) (e : ∀ (a : Nat) (i : Int), 600 ≤ a → a ≤ 601 → S a i = R a i) : RDp C S := fun p p0 p1 => by
  refine ⟨?_, fun i i0 i1 => ?_⟩
  · rw [e 600 p (by decide) (by decide)]; exact (h p p0 p1).1
  · rw [e 601 _ (by decide) (by decide)]; exact (h p p0 p1).2 i i0 i1
theorem RDf.r {C R S : jm} (h : RDf C R) (e : ∀ i : Int, 13 ≤ i → i ≤ 16 → S 598 i = R 598 i) : RDf C S := by
  unfold RDf
  rw [e 13 (by decide) (by decide), e 14 (by decide) (by decide), e 15 (by decide) (by decide), e 16 (by decide) (by decide)]
  exact h
theorem RDl.r {C R S : jm} (h : RDl C R) (e : ∀ i : Int, S 622 i = R 622 i) (e1 : S 598 34 = R 598 34) : RDl C S := fun i i0 i1 => by
  rw [e, e1]
  exact h i i0 i1
theorem RDo.r {C R S : jm} (h : RDo C R) (e : ∀ (a : Nat) (i : Int), 643 ≤ a → a ≤ 646 → S a i = R a i) : RDo C S := ⟨h.1, fun k k0 k1 => by
  rw [e 643 k (by decide) (by decide), e 644 k (by decide) (by decide), e 645 k (by decide) (by decide), e 646 k (by decide) (by decide)]
  exact h.2 k k0 k1⟩
theorem l6x_e {R S : jm} {j : Int} (h2 : S 632 j = R 632 j) (h3 : S 633 j = R 633 j) : l6x S j = l6x R j := by
  unfold l6x
  rw [h2, h3]
theorem FL.r {C R S : jm} {t : Nat} {f : Int} (h : FL C R t f) (e1 : ∀ b : Nat, (b = 628 ∨ b = 629 ∨ b = 638 ∨ b = 639 ∨ b = 640 ∨ b = 641 ∨ b = 642) → S b f = R b f) (e2 : ∀ (b : Nat) (s : Int), 630 ≤ b → b ≤ 637 → 0 ≤ s → s < 2 → S b (2 * f + s) = R b (2 * f + s)) : FL C S t f := by
  obtain ⟨h1, h2, h3, h4, h5⟩ := h
  have z0 := fun b h0 h1 => e2 b 0 h0 h1 (by decide) (by decide)
  have z1 := fun b h0 h1 => e2 b 1 h0 h1 (by decide) (by decide)
  simp only [Int.add_zero] at z0
  refine ⟨?_, fun s s0 s1 => ?_, ?_, ?_, ?_⟩
  · rw [e1 628 (by decide), e1 629 (by decide), e1 638 (by decide), e1 639 (by decide), e1 640 (by decide)]; exact h1
  · rw [e2 630 s (by decide) (by decide) s0 s1, e2 631 s (by decide) (by decide) s0 s1, e2 635 s (by decide) (by decide) s0 s1, e2 636 s (by decide) (by decide) s0 s1, e2 637 s (by decide) (by decide) s0 s1, l6x_e (e2 632 s (by decide) (by decide) s0 s1) (e2 633 s (by decide) (by decide) s0 s1), e2 632 s (by decide) (by decide) s0 s1]; exact h2 s s0 s1
  · rw [z1 634 (by decide) (by decide), z0 634 (by decide) (by decide)]; exact h3
  · rw [e1 640 (by decide), e1 641 (by decide), e1 642 (by decide), e1 628 (by decide), e1 629 (by decide)]; exact h4
  · rw [e1 629 (by decide), e1 638 (by decide)]; exact h5
theorem RDw.r {C R S : jm} (h : RDw C R) (e : ∀ (a : Nat) (i : Int), 627 ≤ a → a ≤ 642 → S a i = R a i) : RDw C S := ⟨h.1, fun f f0 f1 => by
  have q := h.2 f f0 f1
  refine ⟨by rw [e 627 f (by decide) (by decide)]; exact q.1, fun u => ?_⟩
  rw [e 627 f (by decide) (by decide)] at u
  exact (q.2 u).r (fun b hb => e b f (by omega) (by omega)) (fun b s b0 b1 _ _ => e b _ (by omega) (by omega))⟩
theorem wR_e {R S : jm} {g : Int} (h : ∀ k : Int, 0 ≤ k → k < 360 → S 615 (360 * g + k) = R 615 (360 * g + k) ∧ S 616 (360 * g + k) = R 616 (360 * g + k)) {k : Int} (k0 : 0 ≤ k) (k1 : k < 360) : wR S g k = wR R g k := by
  unfold wR
  rw [(h k k0 k1).1, (h k k0 k1).2]
theorem lpf_m (w : Int) : lpf w ≤ 360 := by
  unfold lpf
  (repeat' split) <;> omega
/-- a live gathering whose cells of the reference are as they were -/
theorem GL.r {C R S : jm} {G : Nat} {g : Int} (h : GL C R G g) (hr : R 617 g ≤ 400) (hq : R 617 g ≠ -1 → (0 ≤ R 621 g ∧ R 621 g < 400) ∧ (0 ≤ R 619 g ∧ R 619 g < 400)) (e1 : ∀ b : Nat, 607 ≤ b → b ≤ 621 → b ≠ 615 → b ≠ 616 → b ≠ 618 → S b g = R b g) (e5 : ∀ k : Int, 0 ≤ k → k < 360 → S 615 (360 * g + k) = R 615 (360 * g + k) ∧ S 616 (360 * g + k) = R 616 (360 * g + k)) (e8 : ∀ k : Int, 0 ≤ k → k < 400 → S 618 (400 * g + k) = R 618 (400 * g + k)) : GL C S G g := by
  obtain ⟨h1, h2, h3, h4, h5, h6⟩ := h
  refine ⟨?_, ?_, ?_, fun k k0 k1 => ?_, ?_, fun u => ?_⟩
  · rw [e1 607 (by decide) (by decide) (by decide) (by decide) (by decide), e1 608 (by decide) (by decide) (by decide) (by decide) (by decide), e1 609 (by decide) (by decide) (by decide) (by decide) (by decide), e1 610 (by decide) (by decide) (by decide) (by decide) (by decide), e1 611 (by decide) (by decide) (by decide) (by decide) (by decide), e1 612 (by decide) (by decide) (by decide) (by decide) (by decide)]; exact h1
  · rw [e1 607 (by decide) (by decide) (by decide) (by decide) (by decide)]; exact h2
  · rw [e1 614 (by decide) (by decide) (by decide) (by decide) (by decide), e1 613 (by decide) (by decide) (by decide) (by decide) (by decide)]; exact h3
  · have := lpf_m (C G 7)
    rw [wR_e e5 k0 (by omega)]; exact h4 k k0 k1
  · rw [e1 617 (by decide) (by decide) (by decide) (by decide) (by decide)]; exact h5
  · rw [e1 617 (by decide) (by decide) (by decide) (by decide) (by decide)] at u ⊢
    obtain ⟨g1, g2, g3, g4⟩ := h6 u
    have r := hq u
    rw [e1 621 (by decide) (by decide) (by decide) (by decide) (by decide), e1 607 (by decide) (by decide) (by decide) (by decide) (by decide), e1 620 (by decide) (by decide) (by decide) (by decide) (by decide), e1 619 (by decide) (by decide) (by decide) (by decide) (by decide), e1 611 (by decide) (by decide) (by decide) (by decide) (by decide), e8 _ r.2.1 r.2.2, e8 _ r.1.1 r.1.2]
    exact ⟨fun k k0 k1 => by rw [e8 k k0 (by omega)]; exact g1 k k0 k1, g2, g3, g4⟩
theorem RG1.q {R : jm} (h : RG1 R) (hI : RI R) {g : Int} (g0 : 0 ≤ g) (u : R 606 g ≠ 0) : R 617 g ≤ 400 ∧ (R 617 g ≠ -1 → (0 ≤ R 621 g ∧ R 621 g < 400) ∧ (0 ≤ R 619 g ∧ R 619 g < 400)) := by
  have a : (-1 : Int) ≤ R 617 g ∧ R 617 g ≤ 400 := by have q := hI 617 g (Nat.le_of_ble_eq_true rfl); rw [xri_row rfl rfl] at q; exact q
  have b : (0 : Int) ≤ R 619 g ∧ R 619 g ≤ 400 := by have q := hI 619 g (Nat.le_of_ble_eq_true rfl); rw [xri_row rfl rfl] at q; exact q
  refine ⟨a.2, fun v => ?_⟩
  have q := (h g g0 u).2 v
  omega
theorem UN.r {R S : jm} (h : UN R) (e : ∀ (a : Nat) (i : Int), 606 ≤ a → a ≤ 611 → S a i = R a i) : UN S := fun g k g0 g1 k0 k1 u v w => by
  rw [e 606 _ (by decide) (by decide)] at u v
  rw [e 607 _ (by decide) (by decide), e 607 _ (by decide) (by decide), e 608 _ (by decide) (by decide), e 608 _ (by decide) (by decide), e 609 _ (by decide) (by decide), e 609 _ (by decide) (by decide), e 610 _ (by decide) (by decide), e 610 _ (by decide) (by decide), e 611 _ (by decide) (by decide), e 611 _ (by decide) (by decide)] at w
  exact h g k g0 g1 k0 k1 u v w
theorem RDg.r {C R S : jm} (h : RDg C R) (hG : RG1 R) (hI : RI R) (e : ∀ (a : Nat) (i : Int), 606 ≤ a → a ≤ 621 → S a i = R a i) : RDg C S := by
  refine ⟨h.1.r (fun a i h0 h1 => e a i h0 (by omega)), fun g g0 g1 => ?_⟩
  have q := h.2 g g0 g1
  refine ⟨by rw [e 606 g (by decide) (by decide)]; exact q.1, fun u => ?_⟩
  rw [e 606 g (by decide) (by decide)] at u
  have z := RG1.q hG hI g0 u
  exact (q.2 u).r z.1 z.2 (fun b b0 b1 _ _ _ => e b g (by omega) b1) (fun k _ _ => ⟨e 615 _ (by decide) (by decide), e 616 _ (by decide) (by decide)⟩) (fun k _ _ => e 618 _ (by decide) (by decide))
theorem RDp.b {C R : jm} (h : RDp C R) (hI : RI R) : PBS C (rf R) := fun p p0 p1 i i0 i1 => ⟨(h p p0 p1).2 i i0 i1, rf_r hI p i⟩
/-- the class's cells alone -/
theorem RDA.c {C D R : jm} (h : RDA C R) (e : ∀ (a : Nat) (i : Int), a < 598 → D a i = C a i)   : RDA D R := by
  have f : FR [(0, 1000)] C D := fun a i hk => e a i (kd_lt (fun q => by
    rw [q] at hk
    have t : kw [(0, 1000)] 0 i = true := rfl
    rw [t] at hk
    exact absurd hk (by decide)))
  obtain ⟨h1, h2, h3, h4, h5, h6, h7⟩ := h
  exact ⟨h1.f f rfl, h2.f f rfl, h3.f f rfl, h4.f f rfl, h5.f f rfl, h6.f f rfl, h7.f f rfl⟩
end
section
/-! ===== both sides answer alike: headers, tape, packets ===== -/
theorem hsF_n (f : Int → Int) (n c bk k a : Int) : 0 ≤ hsF f n c bk k a := by
  unfold hsF
  (repeat' split) <;> omega
theorem hF_n (f : Int → Int) (N i : Int) : 0 ≤ hF f N i := hsF_n _ _ _ _ _ _
theorem op_kind {C D R S : jm} {r r2 : Int} (h : RDA C R) (hG : RG1 R) (hI : RI R) {x y z : Int} (f : FR W_c_PacketWall_kind_x C D) (p : (((x < 0 ∨ 23 < x ∨ C (xe 2 x) 1 = -1) ∧ r = -2) ∨ (((0 ≤ x ∧ x ≤ 23) ∧ C (xe 2 x) 1 ≠ -1) ∧ ∃ C_ : Int, HE (rf R x) (C (xe 2 x) 1) C_ ∧ r = kA (rf R x) (C (xe 2 x) 1) C_ y))) (q : (((x < 0 ∨ 23 < x ∨ R 600 x = -1) ∧ r2 = -2) ∨ (((0 ≤ x ∧ x ≤ 23) ∧ R 600 x ≠ -1) ∧ ∃ C_ : Int, HE (rf R x) (R 600 x) C_ ∧ r2 = kA (rf R x) (R 600 x) C_ y))) (hf : ∀ (a : Nat) (i : Int), a ≠ 598 → a ≠ 603 → a ≠ 604 → a ≠ 605 → S a i = R a i) (hk : ∀ (i : Int), i ≠ 6 → i ≠ 10 → i ≠ 11 → i ≠ 12 → S 598 i = R 598 i) : RDA D S ∧ r = r2 := by
  refine ⟨⟨((h.1.f f rfl).r (fun i => hf 599 i (nne rfl) (nne rfl) (nne rfl) (nne rfl)) (hk 1 (zne rfl) (zne rfl) (zne rfl) (zne rfl))), ((h.2.1.f f rfl).r (fun a i _ _ => hf a i (by omega) (by omega) (by omega) (by omega))), ((h.2.2.1.f f rfl).r (fun i _ _ => (hk i (by omega) (by omega) (by omega) (by omega)))), ((h.2.2.2.1.f f rfl).r (fun i => hf 622 i (nne rfl) (nne rfl) (nne rfl) (nne rfl)) (hk 34 (zne rfl) (zne rfl) (zne rfl) (zne rfl))), ((h.2.2.2.2.1.f f rfl).r (fun a i _ _ => hf a i (by omega) (by omega) (by omega) (by omega))), ((h.2.2.2.2.2.1.f f rfl).r (fun a i _ _ => hf a i (by omega) (by omega) (by omega) (by omega))), ((h.2.2.2.2.2.2.f f rfl).r hG hI (fun a i _ _ => hf a i (by omega) (by omega) (by omega) (by omega)))⟩, ?_⟩
  by_cases hx : 0 ≤ x ∧ x ≤ 23
  · have hN := (h.2.1 x (by omega) (by omega)).1
    rw [hN] at p
    rcases p with p | ⟨p0, c1, p1, p2⟩ <;> rcases q with q | ⟨q0, c2, q1, q2⟩
    · omega
    · exact absurd p.1 (by omega)
    · exact absurd q.1 (by omega)
    · have e := HE.u p1 q1
      subst e
      rw [p2, q2]
  · rcases p with p | p <;> rcases q with q | q
    · omega
    · exact absurd q.1.1 hx
    · exact absurd p.1.1 hx
    · exact absurd p.1.1 hx
theorem op_place {C D R S : jm} {r r2 : Int} (h : RDA C R) (hG : RG1 R) (hI : RI R) {x y z : Int} (f : FR W_c_PacketWall_place_x C D) (p : (((x < 0 ∨ 23 < x ∨ C (xe 2 x) 1 = -1) ∧ r = -2) ∨ (((0 ≤ x ∧ x ≤ 23) ∧ C (xe 2 x) 1 ≠ -1) ∧ ∃ C_ : Int, HE (rf R x) (C (xe 2 x) 1) C_ ∧ r = pA (rf R x) (C (xe 2 x) 1) C_ y))) (q : (((x < 0 ∨ 23 < x ∨ R 600 x = -1) ∧ r2 = -2) ∨ (((0 ≤ x ∧ x ≤ 23) ∧ R 600 x ≠ -1) ∧ ∃ C_ : Int, HE (rf R x) (R 600 x) C_ ∧ r2 = pA (rf R x) (R 600 x) C_ y))) (hf : ∀ (a : Nat) (i : Int), a ≠ 598 → a ≠ 603 → a ≠ 604 → a ≠ 605 → S a i = R a i) (hk : ∀ (i : Int), i ≠ 6 → i ≠ 10 → i ≠ 11 → i ≠ 12 → S 598 i = R 598 i) : RDA D S ∧ r = r2 := by
  refine ⟨⟨((h.1.f f rfl).r (fun i => hf 599 i (nne rfl) (nne rfl) (nne rfl) (nne rfl)) (hk 1 (zne rfl) (zne rfl) (zne rfl) (zne rfl))), ((h.2.1.f f rfl).r (fun a i _ _ => hf a i (by omega) (by omega) (by omega) (by omega))), ((h.2.2.1.f f rfl).r (fun i _ _ => (hk i (by omega) (by omega) (by omega) (by omega)))), ((h.2.2.2.1.f f rfl).r (fun i => hf 622 i (nne rfl) (nne rfl) (nne rfl) (nne rfl)) (hk 34 (zne rfl) (zne rfl) (zne rfl) (zne rfl))), ((h.2.2.2.2.1.f f rfl).r (fun a i _ _ => hf a i (by omega) (by omega) (by omega) (by omega))), ((h.2.2.2.2.2.1.f f rfl).r (fun a i _ _ => hf a i (by omega) (by omega) (by omega) (by omega))), ((h.2.2.2.2.2.2.f f rfl).r hG hI (fun a i _ _ => hf a i (by omega) (by omega) (by omega) (by omega)))⟩, ?_⟩
  by_cases hx : 0 ≤ x ∧ x ≤ 23
  · have hN := (h.2.1 x (by omega) (by omega)).1
    rw [hN] at p
    rcases p with p | ⟨p0, c1, p1, p2⟩ <;> rcases q with q | ⟨q0, c2, q1, q2⟩
    · omega
    · exact absurd p.1 (by omega)
    · exact absurd q.1 (by omega)
    · have e := HE.u p1 q1
      subst e
      rw [p2, q2]
  · rcases p with p | p <;> rcases q with q | q
    · omega
    · exact absurd q.1.1 hx
    · exact absurd p.1.1 hx
    · exact absurd p.1.1 hx
theorem op_field {C D R S : jm} {r r2 : Int} (h : RDA C R) (hG : RG1 R) (hI : RI R) {x y z : Int} (f : FR W_c_PacketWall_field_x C D) (p : (((x < 0 ∨ 23 < x ∨ C (xe 2 x) 1 = -1) ∧ r = -2) ∨ (((0 ≤ x ∧ x ≤ 23) ∧ C (xe 2 x) 1 ≠ -1) ∧ ∃ C_ : Int, HE (rf R x) (C (xe 2 x) 1) C_ ∧ r = vA (rf R x) (C (xe 2 x) 1) C_ y z))) (q : (((x < 0 ∨ 23 < x ∨ R 600 x = -1) ∧ r2 = -2) ∨ (((0 ≤ x ∧ x ≤ 23) ∧ R 600 x ≠ -1) ∧ ∃ C_ : Int, HE (rf R x) (R 600 x) C_ ∧ r2 = vA (rf R x) (R 600 x) C_ y z))) (hf : ∀ (a : Nat) (i : Int), a ≠ 598 → a ≠ 603 → a ≠ 604 → a ≠ 605 → S a i = R a i) (hk : ∀ (i : Int), i ≠ 6 → i ≠ 10 → i ≠ 11 → i ≠ 12 → S 598 i = R 598 i) : RDA D S ∧ r = r2 := by
  refine ⟨⟨((h.1.f f rfl).r (fun i => hf 599 i (nne rfl) (nne rfl) (nne rfl) (nne rfl)) (hk 1 (zne rfl) (zne rfl) (zne rfl) (zne rfl))), ((h.2.1.f f rfl).r (fun a i _ _ => hf a i (by omega) (by omega) (by omega) (by omega))), ((h.2.2.1.f f rfl).r (fun i _ _ => (hk i (by omega) (by omega) (by omega) (by omega)))), ((h.2.2.2.1.f f rfl).r (fun i => hf 622 i (nne rfl) (nne rfl) (nne rfl) (nne rfl)) (hk 34 (zne rfl) (zne rfl) (zne rfl) (zne rfl))), ((h.2.2.2.2.1.f f rfl).r (fun a i _ _ => hf a i (by omega) (by omega) (by omega) (by omega))), ((h.2.2.2.2.2.1.f f rfl).r (fun a i _ _ => hf a i (by omega) (by omega) (by omega) (by omega))), ((h.2.2.2.2.2.2.f f rfl).r hG hI (fun a i _ _ => hf a i (by omega) (by omega) (by omega) (by omega)))⟩, ?_⟩
  by_cases hx : 0 ≤ x ∧ x ≤ 23
  · have hN := (h.2.1 x (by omega) (by omega)).1
    rw [hN] at p
    rcases p with p | ⟨p0, c1, p1, p2⟩ <;> rcases q with q | ⟨q0, c2, q1, q2⟩
    · omega
    · exact absurd p.1 (by omega)
    · exact absurd q.1 (by omega)
    · have e := HE.u p1 q1
      subst e
      rw [p2, q2]
  · rcases p with p | p <;> rcases q with q | q
    · omega
    · exact absurd q.1.1 hx
    · exact absurd p.1.1 hx
    · exact absurd p.1.1 hx
theorem op_sum {C D R S : jm} {r r2 : Int} (h : RDA C R) (hG : RG1 R) (hI : RI R) {x y z : Int} (f : FR W_c_PacketWall_sum_x C D) (p : (((x < 0 ∨ 23 < x ∨ C (xe 2 x) 1 = -1) ∧ r = -2) ∨ (((0 ≤ x ∧ x ≤ 23) ∧ C (xe 2 x) 1 ≠ -1) ∧ ∃ C_ : Int, HE (rf R x) (C (xe 2 x) 1) C_ ∧ r = dS (rf R x) (rf R x) (C (xe 2 x) 1) C_ y))) (q : (((x < 0 ∨ 23 < x ∨ R 600 x = -1) ∧ r2 = -2) ∨ (((0 ≤ x ∧ x ≤ 23) ∧ R 600 x ≠ -1) ∧ ∃ C_ : Int, HE (rf R x) (R 600 x) C_ ∧ r2 = dS (rf R x) (rf R x) (R 600 x) C_ y))) (hf : ∀ (a : Nat) (i : Int), a ≠ 598 → a ≠ 603 → a ≠ 604 → a ≠ 605 → S a i = R a i) (hk : ∀ (i : Int), i ≠ 6 → i ≠ 10 → i ≠ 11 → i ≠ 12 → S 598 i = R 598 i) : RDA D S ∧ r = r2 := by
  refine ⟨⟨((h.1.f f rfl).r (fun i => hf 599 i (nne rfl) (nne rfl) (nne rfl) (nne rfl)) (hk 1 (zne rfl) (zne rfl) (zne rfl) (zne rfl))), ((h.2.1.f f rfl).r (fun a i _ _ => hf a i (by omega) (by omega) (by omega) (by omega))), ((h.2.2.1.f f rfl).r (fun i _ _ => (hk i (by omega) (by omega) (by omega) (by omega)))), ((h.2.2.2.1.f f rfl).r (fun i => hf 622 i (nne rfl) (nne rfl) (nne rfl) (nne rfl)) (hk 34 (zne rfl) (zne rfl) (zne rfl) (zne rfl))), ((h.2.2.2.2.1.f f rfl).r (fun a i _ _ => hf a i (by omega) (by omega) (by omega) (by omega))), ((h.2.2.2.2.2.1.f f rfl).r (fun a i _ _ => hf a i (by omega) (by omega) (by omega) (by omega))), ((h.2.2.2.2.2.2.f f rfl).r hG hI (fun a i _ _ => hf a i (by omega) (by omega) (by omega) (by omega)))⟩, ?_⟩
  by_cases hx : 0 ≤ x ∧ x ≤ 23
  · have hN := (h.2.1 x (by omega) (by omega)).1
    rw [hN] at p
    rcases p with p | ⟨p0, c1, p1, p2⟩ <;> rcases q with q | ⟨q0, c2, q1, q2⟩
    · omega
    · exact absurd p.1 (by omega)
    · exact absurd q.1 (by omega)
    · have e := HE.u p1 q1
      subst e
      rw [p2, q2]
  · rcases p with p | p <;> rcases q with q | q
    · omega
    · exact absurd q.1.1 hx
    · exact absurd p.1.1 hx
    · exact absurd p.1.1 hx
theorem op_carried {C D R S : jm} {r r2 : Int} (h : RDA C R) (hG : RG1 R) (hI : RI R) {x y z : Int} (f : FR W_c_PacketWall_carried_x C D) (p : (((x < 0 ∨ 23 < x ∨ C (xe 2 x) 1 = -1) ∧ r = -2) ∨ (((0 ≤ x ∧ x ≤ 23) ∧ C (xe 2 x) 1 ≠ -1) ∧ ∃ C_ : Int, HE (rf R x) (C (xe 2 x) 1) C_ ∧ (((y < 0 ∨ z < 0 ∨ C_ < y + z) ∧ r = -3) ∨ ((0 ≤ y ∧ 0 ≤ z ∧ y + z ≤ C_) ∧ r = crr (rf R x) (C (xe 2 x) 1) z.toNat y))))) (q : (((x < 0 ∨ 23 < x ∨ R 600 x = -1) ∧ r2 = -2) ∨ (((0 ≤ x ∧ x ≤ 23) ∧ R 600 x ≠ -1) ∧ ∃ C_ : Int, HE (rf R x) (R 600 x) C_ ∧ (((y < 0 ∨ z < 0 ∨ C_ < y + z) ∧ r2 = -3) ∨ ((0 ≤ y ∧ 0 ≤ z ∧ y + z ≤ C_) ∧ r2 = crr (rf R x) (R 600 x) z.toNat y))))) (hf : ∀ (a : Nat) (i : Int), a ≠ 598 → a ≠ 603 → a ≠ 604 → a ≠ 605 → S a i = R a i) (hk : ∀ (i : Int), i ≠ 6 → i ≠ 10 → i ≠ 11 → i ≠ 12 → S 598 i = R 598 i) : RDA D S ∧ r = r2 := by
  refine ⟨⟨((h.1.f f rfl).r (fun i => hf 599 i (nne rfl) (nne rfl) (nne rfl) (nne rfl)) (hk 1 (zne rfl) (zne rfl) (zne rfl) (zne rfl))), ((h.2.1.f f rfl).r (fun a i _ _ => hf a i (by omega) (by omega) (by omega) (by omega))), ((h.2.2.1.f f rfl).r (fun i _ _ => (hk i (by omega) (by omega) (by omega) (by omega)))), ((h.2.2.2.1.f f rfl).r (fun i => hf 622 i (nne rfl) (nne rfl) (nne rfl) (nne rfl)) (hk 34 (zne rfl) (zne rfl) (zne rfl) (zne rfl))), ((h.2.2.2.2.1.f f rfl).r (fun a i _ _ => hf a i (by omega) (by omega) (by omega) (by omega))), ((h.2.2.2.2.2.1.f f rfl).r (fun a i _ _ => hf a i (by omega) (by omega) (by omega) (by omega))), ((h.2.2.2.2.2.2.f f rfl).r hG hI (fun a i _ _ => hf a i (by omega) (by omega) (by omega) (by omega)))⟩, ?_⟩
  by_cases hx : 0 ≤ x ∧ x ≤ 23
  · have hN := (h.2.1 x (by omega) (by omega)).1
    rw [hN] at p
    rcases p with p | ⟨p0, c1, p1, p2⟩ <;> rcases q with q | ⟨q0, c2, q1, q2⟩
    · omega
    · exact absurd p.1 (by omega)
    · exact absurd q.1 (by omega)
    · have e := HE.u p1 q1
      subst e
      omega
  · rcases p with p | p <;> rcases q with q | q
    · omega
    · exact absurd q.1.1 hx
    · exact absurd p.1.1 hx
    · exact absurd p.1.1 hx
theorem op_at {C R : jm} {r r2 x y : Int} (h : RDA C R) (hI : RI R) (p : (((x < 0 ∨ 23 < x ∨ C (xe 2 x) 1 = -1) ∧ r = -2) ∨ ((0 ≤ x ∧ x ≤ 23) ∧ C (xe 2 x) 1 ≠ -1 ∧ ((y = -1 ∧ r = C (xe 2 x) 1) ∨ (y ≠ -1 ∧ (0 ≤ y ∧ y < C (xe 2 x) 1) ∧ r = C ((xe 2 x) + 1) y) ∨ (y ≠ -1 ∧ (y < 0 ∨ C (xe 2 x) 1 ≤ y) ∧ r = -1))))) (q : (((x < 0 ∨ 23 < x ∨ R 600 x = -1) ∧ r2 = -2) ∨ ((0 ≤ x ∧ x ≤ 23) ∧ R 600 x ≠ -1 ∧ ((y = -1 ∧ r2 = R 600 x) ∨ (y ≠ -1 ∧ (0 ≤ y ∧ y < R 600 x) ∧ r2 = R 601 (400 * x + y)) ∨ (y ≠ -1 ∧ (y < 0 ∨ R 600 x ≤ y) ∧ r2 = -1))))) : r = r2 := by
  by_cases hx : 0 ≤ x ∧ x ≤ 23
  · have hN := (h.2.1 x (by omega) (by omega)).1
    have hB := (h.2.1 x (by omega) (by omega)).2 y
    have b : R 600 x ≤ 400 := by have q := hI 600 x (Nat.le_of_ble_eq_true rfl); rw [xri_row rfl rfl] at q; exact q.2
    rw [hN] at p
    by_cases hy : 0 ≤ y ∧ y < 400
    · rw [hB hy.1 hy.2] at p
      omega
    · omega
  · omega
theorem op_digest {C R S : jm} {r r2 x : Int} (h : RDA C R) (hI : RI R) (p : (((x < 0 ∨ 23 < x ∨ C (xe 2 x) 1 = -1) ∧ r = 0) ∨ ((0 ≤ x ∧ x ≤ 23) ∧ C (xe 2 x) 1 ≠ -1 ∧ r = dg (fun k => C ((xe 2 x) + 1) k) (C (xe 2 x) 1).toNat))) (q : (((x < 0 ∨ 23 < x ∨ S 600 x = -1) ∧ r2 = 0) ∨ ((0 ≤ x ∧ x ≤ 23) ∧ S 600 x ≠ -1 ∧ r2 = dg (fun j => S 601 (400 * x + j)) (S 600 x).toNat))) (e : ∀ (a : Nat) (i : Int), a ≠ 603 → S a i = R a i) : r = r2 := by
  have e0 : S 600 x = R 600 x := e 600 x (by decide)
  have e1 : (fun j => S 601 (400 * x + j)) = rf R x := funext (fun j => e 601 _ (by decide))
  rw [e0, e1] at q
  by_cases hx : 0 ≤ x ∧ x ≤ 23
  · have hN := (h.2.1 x (by omega) (by omega)).1
    have b : R 600 x ≤ 400 := by have q := hI 600 x (Nat.le_of_ble_eq_true rfl); rw [xri_row rfl rfl] at q; exact q.2
    have d : ∀ n : Nat, (n : Int) ≤ 400 → dg (fun k => C ((xe 2 x) + 1) k) n = dg (rf R x) n := by
      intro n
      induction n with
      | zero => intro _; rfl
      | succ n ih =>
        intro hn
        show jl_w (jl_xor (dg _ n) (C ((xe 2 x) + 1) n) * _) = jl_w (jl_xor (dg _ n) (rf R x n) * _)
        rw [ih (by omega), (h.2.1 x (by omega) (by omega)).2 n (by omega) (by omega)]
        rfl
    rw [hN] at p
    by_cases hm : R 600 x = -1
    · omega
    · have nb : -1 ≤ R 600 x := by have q := hI 600 x (Nat.le_of_ble_eq_true rfl); rw [xri_row rfl rfl] at q; exact q.1
      rw [d (R 600 x).toNat (by omega)] at p
      omega
  · omega
theorem op_finding {C R : jm} {r r2 x : Int} (h : RDA C R) (p : (((0 ≤ x ∧ x < 4) ∧ r = C 9 x) ∨ ((x < 0 ∨ 4 ≤ x) ∧ r = -3))) (q : ((x = 0 ∧ ((R 598 13 = -1 ∧ r2 = 0) ∨ (R 598 13 ≠ -1 ∧ r2 = R 598 13))) ∨ (x = 1 ∧ r2 = R 598 14) ∨ (x = 2 ∧ r2 = R 598 15) ∨ (x = 3 ∧ r2 = R 598 16) ∨ ((x < 0 ∨ 3 < x) ∧ r2 = -3))) : r = r2 := by
  obtain ⟨h0, h1, h2, h3⟩ := h.2.2.1
  by_cases hx : 0 ≤ x ∧ x < 4
  · rcases (show x = 0 ∨ x = 1 ∨ x = 2 ∨ x = 3 by omega) with rfl | rfl | rfl | rfl
    · split at h0 <;> omega
    · omega
    · omega
    · omega
  · omega
theorem op_gathered {C R : jm} {r r2 x : Int} (h : RDA C R) (p : (((0 ≤ x ∧ x < 5) ∧ r = C 14 x) ∨ ((x < 0 ∨ 5 ≤ x) ∧ r = -3))) (q : (((0 ≤ x ∧ x ≤ 4) ∧ ((R 598 34 = 0 ∧ r2 = -1) ∨ (R 598 34 ≠ 0 ∧ r2 = R 622 x))) ∨ ((x < 0 ∨ 4 < x) ∧ r2 = -3))) : r = r2 := by
  by_cases hx : 0 ≤ x ∧ x < 5
  · have e := h.2.2.2.1 x hx.1 hx.2
    split at e <;> omega
  · omega
theorem op_tape {C R : jm} {r r2 x : Int} (h : RDA C R) (p : ((0 ≤ x ∧ x < C 0 1) ∧ r = C 1 x) ∨ ((x < 0 ∨ C 0 1 ≤ x) ∧ r = -1)) (q : (((0 ≤ x ∧ x < R 598 1) ∧ r2 = R 599 x) ∨ ((x < 0 ∨ R 598 1 ≤ x) ∧ r2 = -1))) : r = r2 := by
  rw [h.1.1, h.1.2] at p
  omega
theorem op_feed {C D R S : jm} {r r2 : Int} (h : RDA C R) (hG : RG1 R) (hI : RI R) {x y z u v : Int} (f : FR W_c_PacketWall_feed_f C D) (p : ((C 0 1 + 20 ≤ 1600 ∧ r = C 0 1 + 20 ∧ D 1 = t4 (t4 (t4 (t4 (t4 (C 1) (C 0 1) x) (C 0 1 + 4) y) ((C 0 1 + 4) + 4) z) (((C 0 1 + 4) + 4) + 4) u) ((((C 0 1 + 4) + 4) + 4) + 4) v) ∨ (1600 < C 0 1 + 20 ∧ r = -5 ∧ D 1 = C 1))) (pl : ((C 0 1 + 20 ≤ 1600 ∧ D 0 1 = C 0 1 + 20) ∨ (1600 < C 0 1 + 20 ∧ D 0 1 = C 0 1))) (q : ((R 598 1 + 20 ≤ 1600 ∧ r2 = R 598 1 + 20 ∧ S 599 = t4 (t4 (t4 (t4 (t4 (R 599) (R 598 1) x) (R 598 1 + 4) y) ((R 598 1 + 4) + 4) z) (((R 598 1 + 4) + 4) + 4) u) ((((R 598 1 + 4) + 4) + 4) + 4) v ∧ S 598 1 = R 598 1 + 20) ∨ (1600 < R 598 1 + 20 ∧ r2 = -5 ∧ S 599 = R 599 ∧ S 598 1 = R 598 1))) (hf : ∀ (a : Nat) (i : Int), a ≠ 598 → a ≠ 599 → S a i = R a i) (hk : ∀ (i : Int), i ≠ 1 → S 598 i = R 598 i) : RDA D S ∧ r = r2 := by
  rw [h.1.1, h.1.2] at p
  rw [h.1.2] at pl
  refine ⟨⟨?_, ((h.2.1.f f rfl).r (fun a i _ _ => hf a i (by omega) (by omega))), ((h.2.2.1.f f rfl).r (fun i _ _ => (hk i (by omega)))), ((h.2.2.2.1.f f rfl).r (fun i => hf 622 i (nne rfl) (nne rfl)) (hk 34 (zne rfl))), ((h.2.2.2.2.1.f f rfl).r (fun a i _ _ => hf a i (by omega) (by omega))), ((h.2.2.2.2.2.1.f f rfl).r (fun a i _ _ => hf a i (by omega) (by omega))), ((h.2.2.2.2.2.2.f f rfl).r hG hI (fun a i _ _ => hf a i (by omega) (by omega)))⟩, ?_⟩
  · refine ⟨?_, by omega⟩
    rcases p with p | p <;> rcases q with q | q
    · rw [p.2.2, q.2.2.1]
    · omega
    · omega
    · rw [p.2.2, q.2.2.1]
  · omega
theorem op_end {C D R S : jm} {r r2 : Int} (h : RDA C R) (hG : RG1 R) (hI : RI R) {x : Int} (f : FR W_c_PacketWall_end_x C D) (p : (((0 ≤ x ∧ x ≤ C 0 1) ∧ r = x ∧ D 0 1 = x) ∨ ((x < 0 ∨ C 0 1 < x) ∧ r = -3 ∧ D 0 1 = C 0 1))) (q : (((0 ≤ x ∧ x ≤ R 598 1) ∧ r2 = x ∧ S 598 1 = x) ∨ ((x < 0 ∨ R 598 1 < x) ∧ r2 = -3 ∧ S 598 1 = R 598 1))) (hf : ∀ (a : Nat) (i : Int), a ≠ 598 → S a i = R a i) (hk : ∀ (i : Int), i ≠ 1 → S 598 i = R 598 i) : RDA D S ∧ r = r2 := by
  rw [h.1.2] at p
  have e1 : D 1 = C 1 := funext (fun i => f.g (show kd 1 = 43 from rfl) rfl)
  have e2 : S 599 = R 599 := funext (fun i => hf 599 i (nne rfl))
  exact ⟨⟨⟨by rw [e1, e2]; exact h.1.1, by omega⟩, ((h.2.1.f f rfl).r (fun a i _ _ => hf a i (by omega))), ((h.2.2.1.f f rfl).r (fun i _ _ => (hk i (by omega)))), ((h.2.2.2.1.f f rfl).r (fun i => hf 622 i (nne rfl)) (hk 34 (zne rfl))), ((h.2.2.2.2.1.f f rfl).r (fun a i _ _ => hf a i (by omega))), ((h.2.2.2.2.2.1.f f rfl).r (fun a i _ _ => hf a i (by omega))), ((h.2.2.2.2.2.2.f f rfl).r hG hI (fun a i _ _ => hf a i (by omega)))⟩, by omega⟩
theorem rdp_bytes {C R : jm} (h : RDp C R) {D S : jm} {x : Int} {g g2 : Int → Int} (hx : 0 ≤ x ∧ x < 24) (e1 : ∀ p : Int, 0 ≤ p → p < 24 → D (xe 2 p) 1 = S 600 p) (hb : ∀ i : Int, 0 ≤ i → i < 400 → D (xe 2 x + 1) i = g i) (hs : ∀ i : Int, 0 ≤ i → i < 400 → S 601 (400 * x + i) = g2 i) (hg : ∀ i : Int, 0 ≤ i → i < 400 → g i = g2 i) (ed : ∀ p : Int, 0 ≤ p → p < 24 → p ≠ x → ∀ i : Int, D (xe 2 p + 1) i = C (xe 2 p + 1) i) (es : ∀ j : Int, (j < 400 * x ∨ 400 * x + 400 ≤ j) → S 601 j = R 601 j) : RDp D S := fun p p0 p1 => by
  refine ⟨e1 p p0 p1, fun i i0 i1 => ?_⟩
  by_cases e : p = x
  · subst e
    rw [hb i i0 i1, hs i i0 i1, hg i i0 i1]
  · rw [ed p p0 p1 e, es _ (by omega)]
    exact (h p p0 p1).2 i i0 i1
theorem xpk_ne {p x : Int} (hp : 0 ≤ p ∧ p < 24) (hx : 0 ≤ x ∧ x < 24) (h : p ≠ x) : xe 2 p ≠ xe 2 x ∧ xe 2 p ≠ xe 2 x + 1 ∧ xe 2 p + 1 ≠ xe 2 x ∧ xe 2 p + 1 ≠ xe 2 x + 1 := by
  have a := xpk hp
  have b := xpk hx
  omega
theorem xpk_z {p : Int} (hp : 0 ≤ p ∧ p < 24) : xe 2 p ≠ 0 ∧ xe 2 p + 1 ≠ 0 ∧ xe 2 p ≠ 1 ∧ xe 2 p + 1 ≠ 1 ∧ xe 2 p ≠ xe 2 p + 1 := by
  have a := xpk hp
  omega
theorem op_packet {C D R S : jm} {r r2 : Int} (h : RDA C R) (hG : RG1 R) (hI : RI R) {x : Int} (f : FR W_c_PacketWall_packet_x C D) (p : (((x < 0 ∨ 23 < x ∨ 400 < C 0 1) ∧ r = -3 ∧ D = C) ∨ ((0 ≤ x ∧ x ≤ 23) ∧ C 0 1 ≤ 400 ∧ r = C 0 1 ∧ D = pkm C (xe 2 x) (C 0 1)))) (q : (((x < 0 ∨ 23 < x ∨ 400 < R 598 1) ∧ r2 = -3 ∧ S 598 1 = R 598 1 ∧ S 600 = R 600 ∧ S 601 = R 601) ∨ ((0 ≤ x ∧ x ≤ 23) ∧ R 598 1 ≤ 400 ∧ r2 = R 598 1 ∧ S 598 1 = 0 ∧ S 601 = pk6 (R 601) (R 599) x (R 598 1) ∧ (∀ j : Int, j ≠ x → S 600 j = R 600 j) ∧ S 600 x = R 598 1))) (hf : ∀ (a : Nat) (i : Int), a ≠ 598 → a ≠ 600 → a ≠ 601 → a ≠ 602 → S a i = R a i) (hk : ∀ (i : Int), i ≠ 1 → S 598 i = R 598 i) : RDA D S ∧ r = r2 := by
  have e2 : S 599 = R 599 := funext (fun i => hf 599 i (nne rfl) (nne rfl) (nne rfl) (nne rfl))
  have e1 : D 1 = C 1 := funext (fun i => f.g (show kd 1 = 43 from rfl) rfl)
  rw [h.1.2] at p
  rcases p with ⟨p0, p1, p2⟩ | ⟨p0, p1, p2, p3⟩ <;> rcases q with ⟨q0, q1, q2, q3, q4⟩ | ⟨q0, q1, q2, q3, q4, q5, q6⟩
  · refine ⟨⟨?_, ?_, ((h.2.2.1.f f rfl).r (fun i _ _ => (hk i (by omega)))), ((h.2.2.2.1.f f rfl).r (fun i => hf 622 i (nne rfl) (nne rfl) (nne rfl) (nne rfl)) (hk 34 (zne rfl))), ((h.2.2.2.2.1.f f rfl).r (fun a i _ _ => hf a i (by omega) (by omega) (by omega) (by omega))), ((h.2.2.2.2.2.1.f f rfl).r (fun a i _ _ => hf a i (by omega) (by omega) (by omega) (by omega))), ((h.2.2.2.2.2.2.f f rfl).r hG hI (fun a i _ _ => hf a i (by omega) (by omega) (by omega) (by omega)))⟩, by omega⟩
    · exact ⟨by rw [e1, e2]; exact h.1.1, by rw [p2, q2]; exact h.1.2⟩
    · intro b b0 b1
      rw [p2, q3, q4]
      exact h.2.1 b b0 b1
  · omega
  · omega
  · have z := xpk_z (p := x) ⟨by omega, by omega⟩
    refine ⟨⟨?_, ?_, ((h.2.2.1.f f rfl).r (fun i _ _ => (hk i (by omega)))), ((h.2.2.2.1.f f rfl).r (fun i => hf 622 i (nne rfl) (nne rfl) (nne rfl) (nne rfl)) (hk 34 (zne rfl))), ((h.2.2.2.2.1.f f rfl).r (fun a i _ _ => hf a i (by omega) (by omega) (by omega) (by omega))), ((h.2.2.2.2.2.1.f f rfl).r (fun a i _ _ => hf a i (by omega) (by omega) (by omega) (by omega))), ((h.2.2.2.2.2.2.f f rfl).r hG hI (fun a i _ _ => hf a i (by omega) (by omega) (by omega) (by omega)))⟩, by omega⟩
    · refine ⟨by rw [e1, e2]; exact h.1.1, ?_⟩
      rw [q3, p3]
      rfl
    · refine rdp_bytes h.2.1 (x := x) (g := fun k => if 0 ≤ k ∧ k < 0 + R 598 1 then C 1 (0 + (k - 0)) else C (xe 2 x + 1) k) (g2 := fun k => if 0 ≤ k ∧ k < 0 + R 598 1 then R 599 (0 + (k - 0)) else R 601 (400 * x + k)) (by omega) ?_ ?_ ?_ ?_ ?_ ?_
      · intro b b0 b1
        have zb := xpk_z (p := b) ⟨b0, b1⟩
        by_cases e : b = x
        · subst e
          rw [q6, p3]
          unfold pkm
          rw [if_neg (by omega), if_neg (by omega), if_pos ⟨rfl, rfl⟩]
        · have n := xpk_ne (p := b) (x := x) ⟨b0, b1⟩ (by omega) e
          rw [q5 b e, p3]
          unfold pkm
          rw [if_neg (by omega), if_neg (by omega), if_neg (by omega), if_neg (by omega)]
          exact (h.2.1 b b0 b1).1
      · intro i i0 i1
        rw [p3]
        unfold pkm
        rw [if_neg (by omega), if_neg (by omega), if_neg (by omega)]
        by_cases e : 0 ≤ i ∧ i < 0 + R 598 1
        · rw [if_pos ⟨rfl, e⟩]
          exact (if_pos e).symm
        · rw [if_neg (by omega)]
          exact (if_neg e).symm
      · intro i i0 i1
        rw [q4]
        unfold pk6
        by_cases e : 0 ≤ i ∧ i < 0 + R 598 1
        · rw [if_pos (by omega)]
          refine Eq.trans ?_ (if_pos e).symm
          congr 1
          omega
        · rw [if_neg (by omega)]
          exact (if_neg e).symm
      · intro i i0 i1
        show (if 0 ≤ i ∧ i < 0 + R 598 1 then C 1 (0 + (i - 0)) else C (xe 2 x + 1) i) = if 0 ≤ i ∧ i < 0 + R 598 1 then R 599 (0 + (i - 0)) else R 601 (400 * x + i)
        rw [h.1.1, (h.2.1 x (by omega) (by omega)).2 i i0 i1]
      · intro b b0 b1 e i
        have zb := xpk_z (p := b) ⟨b0, b1⟩
        have n := xpk_ne (p := b) (x := x) ⟨b0, b1⟩ (by omega) e
        rw [p3]
        unfold pkm
        rw [if_neg (by omega), if_neg (by omega), if_neg (by omega), if_neg (by omega)]
      · intro j hj
        rw [q4]
        unfold pk6
        rw [if_neg (by omega)]
theorem op_drop {C D R S : jm} {r r2 : Int} (h : RDA C R) (hG : RG1 R) (hI : RI R) {x : Int} (f : FR W_c_PacketWall_drop_x C D) (p : (((x < 0 ∨ 23 < x) ∧ r = -3 ∧ D = C) ∨ ((0 ≤ x ∧ x ≤ 23) ∧ ((C (xe 2 x) 1 = -1 ∧ r = 0) ∨ (C (xe 2 x) 1 ≠ -1 ∧ r = 1)) ∧ D = ju (ju C (xe 2 x) 1 (-1)) (xe 2 x) 2 0))) (q : (((x < 0 ∨ 23 < x) ∧ r2 = -3 ∧ S = R) ∨ ((0 ≤ x ∧ x ≤ 23) ∧ ((R 600 x = -1 ∧ r2 = 0) ∨ (R 600 x ≠ -1 ∧ r2 = 1)) ∧ S = ju (ju R 600 x (-1)) 602 x 0))) (hf : ∀ (a : Nat) (i : Int), a ≠ 600 → a ≠ 602 → S a i = R a i) (hk : ∀ (i : Int), i ≠ 1 → S 598 i = R 598 i) : RDA D S ∧ r = r2 := by
  rcases p with ⟨p0, p1, p2⟩ | ⟨p0, p1, p2⟩ <;> rcases q with ⟨q0, q1, q2⟩ | ⟨q0, q1, q2⟩
  · rw [p2, q2]
    exact ⟨h, by omega⟩
  · omega
  · omega
  · have hN := (h.2.1 x (by omega) (by omega)).1
    rw [hN] at p1
    refine ⟨⟨((h.1.f f rfl).r (fun i => hf 599 i (nne rfl) (nne rfl)) (hf 598 1 (nne rfl) (nne rfl))), ?_, ((h.2.2.1.f f rfl).r (fun i _ _ => (hf 598 i (nne rfl) (nne rfl)))), ((h.2.2.2.1.f f rfl).r (fun i => hf 622 i (nne rfl) (nne rfl)) (hf 598 34 (nne rfl) (nne rfl))), ((h.2.2.2.2.1.f f rfl).r (fun a i _ _ => hf a i (by omega) (by omega))), ((h.2.2.2.2.2.1.f f rfl).r (fun a i _ _ => hf a i (by omega) (by omega))), ((h.2.2.2.2.2.2.f f rfl).r hG hI (fun a i _ _ => hf a i (by omega) (by omega)))⟩, by omega⟩
    intro b b0 b1
    have zb := xpk_z (p := b) ⟨b0, b1⟩
    have s1 : S 600 b = ju R 600 x (-1) 600 b := by rw [q2]; exact ju_c _ _ (by decide)
    have s2 : ∀ i : Int, S 601 i = R 601 i := fun i => by rw [q2]; exact (ju_c _ _ (by decide)).trans (ju_c _ _ (by decide))
    have d1 : D (xe 2 b) 1 = ju C (xe 2 x) 1 (-1) (xe 2 b) 1 := by rw [p2]; exact ju_i _ _ (zne (by decide))
    have d2 : ∀ i : Int, D (xe 2 b + 1) i = C (xe 2 b + 1) i := fun i => by
      have zx := xpk_z (p := x) ⟨by omega, by omega⟩
      have n : xe 2 b + 1 ≠ xe 2 x := by
        by_cases e : b = x
        · subst e; omega
        · exact (xpk_ne (p := b) (x := x) ⟨b0, b1⟩ (by omega) e).2.2.1
      rw [p2, ju_c _ _ n, ju_c _ _ n]
    refine ⟨?_, fun i i0 i1 => ?_⟩
    · rw [s1, d1]
      by_cases e : b = x
      · subst e
        rw [ju_same, ju_same]
      · have n := xpk_ne (p := b) (x := x) ⟨b0, b1⟩ (by omega) e
        rw [ju_c _ _ n.1, ju_i _ _ e]
        exact (h.2.1 b b0 b1).1
    · rw [s2, d2]
      exact (h.2.1 b b0 b1).2 i i0 i1
theorem op_set {C D R S : jm} {r r2 : Int} (h : RDA C R) (hG : RG1 R) (hI : RI R) {x y z : Int} (f : FR W_c_PacketWall_set_x C D) (p : (((x < 0 ∨ 23 < x ∨ C (xe 2 x) 1 = -1) ∧ r = -2 ∧ D = C) ∨ ((0 ≤ x ∧ x ≤ 23) ∧ C (xe 2 x) 1 ≠ -1 ∧ (y < 0 ∨ C (xe 2 x) 1 ≤ y ∨ z < 0 ∨ 255 < z) ∧ r = -3 ∧ D = C) ∨ ((0 ≤ x ∧ x ≤ 23) ∧ C (xe 2 x) 1 ≠ -1 ∧ (0 ≤ y ∧ y < C (xe 2 x) 1) ∧ (0 ≤ z ∧ z ≤ 255) ∧ r = C ((xe 2 x) + 1) y ∧ D = ju C ((xe 2 x) + 1) y z))) (q : (((x < 0 ∨ 23 < x ∨ R 600 x = -1) ∧ r2 = -2 ∧ S = R) ∨ ((0 ≤ x ∧ x ≤ 23) ∧ R 600 x ≠ -1 ∧ (y < 0 ∨ R 600 x ≤ y ∨ z < 0 ∨ 255 < z) ∧ r2 = -3 ∧ S = R) ∨ ((0 ≤ x ∧ x ≤ 23) ∧ R 600 x ≠ -1 ∧ (0 ≤ y ∧ y < R 600 x) ∧ (0 ≤ z ∧ z ≤ 255) ∧ r2 = R 601 (400 * x + y) ∧ S = ju R 601 (400 * x + y) z))) (hf : ∀ (a : Nat) (i : Int), a ≠ 601 → S a i = R a i) (hk : ∀ (i : Int), i ≠ 1 → S 598 i = R 598 i) : RDA D S ∧ r = r2 := by
  by_cases hx : 0 ≤ x ∧ x ≤ 23
  · have hN := (h.2.1 x (by omega) (by omega)).1
    have b : R 600 x ≤ 400 := by have q := hI 600 x (Nat.le_of_ble_eq_true rfl); rw [xri_row rfl rfl] at q; exact q.2
    rw [hN] at p
    rcases p with ⟨p0, p1, p2⟩ | ⟨p0, p1, p2, p3, p4⟩ | ⟨p0, p1, p2, p3, p4, p5⟩ <;> rcases q with ⟨q0, q1, q2⟩ | ⟨q0, q1, q2, q3, q4⟩ | ⟨q0, q1, q2, q3, q4, q5⟩
    · rw [p2, q2]
      exact ⟨h, by omega⟩
    · exact absurd p0 (by omega)
    · exact absurd p0 (by omega)
    · exact absurd q0 (by omega)
    · rw [p4, q4]
      exact ⟨h, by omega⟩
    · exact absurd p2 (by omega)
    · exact absurd q0 (by omega)
    · exact absurd q2 (by omega)
    · have hb := (h.2.1 x (by omega) (by omega)).2 y (by omega) (by omega)
      refine ⟨⟨((h.1.f f rfl).r (fun i => hf 599 i (nne rfl)) (hf 598 1 (nne rfl))), ?_, ((h.2.2.1.f f rfl).r (fun i _ _ => (hf 598 i (nne rfl)))), ((h.2.2.2.1.f f rfl).r (fun i => hf 622 i (nne rfl)) (hf 598 34 (nne rfl))), ((h.2.2.2.2.1.f f rfl).r (fun a i _ _ => hf a i (by omega))), ((h.2.2.2.2.2.1.f f rfl).r (fun a i _ _ => hf a i (by omega))), ((h.2.2.2.2.2.2.f f rfl).r hG hI (fun a i _ _ => hf a i (by omega)))⟩, by omega⟩
      intro c c0 c1
      have zb := xpk_z (p := c) ⟨c0, c1⟩
      refine ⟨?_, fun i i0 i1 => ?_⟩
      · have s1 : S 600 c = R 600 c := by rw [q5]; exact ju_c _ _ (by decide)
        have d1 : D (xe 2 c) 1 = C (xe 2 c) 1 := by
          rw [p5]
          refine ju_c _ _ ?_
          by_cases e : c = x
          · subst e; omega
          · exact (xpk_ne (p := c) (x := x) ⟨c0, c1⟩ (by omega) e).2.1
        rw [s1, d1]
        exact (h.2.1 c c0 c1).1
      · rw [p5, q5]
        by_cases e : c = x
        · subst e
          by_cases e2 : i = y
          · subst e2
            rw [ju_same, ju_same]
          · rw [ju_i _ _ e2, ju_i _ _ (by omega)]
            exact (h.2.1 c c0 c1).2 i i0 i1
        · have n := xpk_ne (p := c) (x := x) ⟨c0, c1⟩ (by omega) e
          rw [ju_c _ _ (by omega), ju_i _ _ (by omega)]
          exact (h.2.1 c c0 c1).2 i i0 i1
  · rcases p with ⟨p0, p1, p2⟩ | ⟨p0, -⟩ | ⟨p0, -⟩
    · rcases q with ⟨q0, q1, q2⟩ | ⟨q0, -⟩ | ⟨q0, -⟩
      · rw [p2, q2]
        exact ⟨h, by omega⟩
      · exact absurd q0 hx
      · exact absurd q0 hx
    · exact absurd p0 hx
    · exact absurd p0 hx
theorem op_repair {C D R S : jm} {r r2 : Int} (h : RDA C R) (hG : RG1 R) (hI : RI R) {x : Int} (f : FR W_c_PacketWall_repair_x C D) (p : (((x < 0 ∨ 23 < x ∨ C (xe 2 x) 1 = -1) ∧ r = -2 ∧ OP C D 0) ∨ (((0 ≤ x ∧ x ≤ 23) ∧ C (xe 2 x) 1 ≠ -1) ∧ OP C D ((xe 2 x) + 1) ∧ ∃ C_ : Int, HE (rf R x) (C (xe 2 x) 1) C_ ∧ r = rpN (rf R x) (C (xe 2 x) 1) C_ C_.toNat (rf R x) ∧ BY8 D ((xe 2 x) + 1) (rpF (rf R x) (C (xe 2 x) 1) C_ C_.toNat (rf R x))))) (q : (((x < 0 ∨ 23 < x ∨ R 600 x = -1) ∧ r2 = -2 ∧ S = R) ∨ (((0 ≤ x ∧ x ≤ 23) ∧ R 600 x ≠ -1) ∧ (∃ C_ : Int, HE (rf R x) (R 600 x) C_ ∧ r2 = rpN (rf R x) (R 600 x) C_ C_.toNat (rf R x) ∧ rf S x = rpF (rf R x) (R 600 x) C_ C_.toNat (rf R x)) ∧ OX R S x))) (hf : ∀ (a : Nat) (i : Int), a ≠ 598 → a ≠ 601 → a ≠ 603 → a ≠ 604 → a ≠ 605 → S a i = R a i) (hk : ∀ (i : Int), i ≠ 6 → i ≠ 10 → i ≠ 11 → i ≠ 12 → S 598 i = R 598 i) : RDA D S ∧ r = r2 := by
  have d1 : ∀ b : Int, 0 ≤ b → b < 24 → D (xe 2 b) 1 = S 600 b := fun b b0 b1 => by
    rw [f.g (kP b0 b1).1 rfl, hf 600 b (nne rfl) (nne rfl) (nne rfl) (nne rfl) (nne rfl)]
    exact (h.2.1 b b0 b1).1
  have same : (x < 0 ∨ 23 < x ∨ R 600 x = -1) → OP C D 0 → S = R → RDp D S := fun _ hp hs b b0 b1 => by
    refine ⟨d1 b b0 b1, fun i i0 i1 => ?_⟩
    have zb := xpk_z (p := b) ⟨b0, b1⟩
    rw [hp _ i zb.2.1 (kP b0 b1).2, hs]
    exact (h.2.1 b b0 b1).2 i i0 i1
  by_cases hx : 0 ≤ x ∧ x ≤ 23
  · have hN := (h.2.1 x (by omega) (by omega)).1
    rw [hN] at p
    rcases p with ⟨p0, p1, p2⟩ | ⟨p0, p1, c1, p2, p3, p4⟩ <;> rcases q with ⟨q0, q1, q2⟩ | ⟨q0, ⟨c2, q1, q2, q3⟩, q4⟩
    · exact ⟨⟨((h.1.f f rfl).r (fun i => hf 599 i (nne rfl) (nne rfl) (nne rfl) (nne rfl) (nne rfl)) (hk 1 (zne rfl) (zne rfl) (zne rfl) (zne rfl))), (same q0 p2 q2), ((h.2.2.1.f f rfl).r (fun i _ _ => (hk i (by omega) (by omega) (by omega) (by omega)))), ((h.2.2.2.1.f f rfl).r (fun i => hf 622 i (nne rfl) (nne rfl) (nne rfl) (nne rfl) (nne rfl)) (hk 34 (zne rfl) (zne rfl) (zne rfl) (zne rfl))), ((h.2.2.2.2.1.f f rfl).r (fun a i _ _ => hf a i (by omega) (by omega) (by omega) (by omega) (by omega))), ((h.2.2.2.2.2.1.f f rfl).r (fun a i _ _ => hf a i (by omega) (by omega) (by omega) (by omega) (by omega))), ((h.2.2.2.2.2.2.f f rfl).r hG hI (fun a i _ _ => hf a i (by omega) (by omega) (by omega) (by omega) (by omega)))⟩, by omega⟩
    · exact absurd p0 (by omega)
    · exact absurd q0 (by omega)
    · have e := HE.u p2 q1
      subst e
      refine ⟨⟨((h.1.f f rfl).r (fun i => hf 599 i (nne rfl) (nne rfl) (nne rfl) (nne rfl) (nne rfl)) (hk 1 (zne rfl) (zne rfl) (zne rfl) (zne rfl))), ?_, ((h.2.2.1.f f rfl).r (fun i _ _ => (hk i (by omega) (by omega) (by omega) (by omega)))), ((h.2.2.2.1.f f rfl).r (fun i => hf 622 i (nne rfl) (nne rfl) (nne rfl) (nne rfl) (nne rfl)) (hk 34 (zne rfl) (zne rfl) (zne rfl) (zne rfl))), ((h.2.2.2.2.1.f f rfl).r (fun a i _ _ => hf a i (by omega) (by omega) (by omega) (by omega) (by omega))), ((h.2.2.2.2.2.1.f f rfl).r (fun a i _ _ => hf a i (by omega) (by omega) (by omega) (by omega) (by omega))), ((h.2.2.2.2.2.2.f f rfl).r hG hI (fun a i _ _ => hf a i (by omega) (by omega) (by omega) (by omega) (by omega)))⟩, by rw [p3, q2]⟩
      exact rdp_bytes h.2.1 (x := x) (by omega) d1 (fun i i0 i1 => (p4 i i0 i1).1) (fun i _ _ => congrFun q3 i) (fun _ _ _ => rfl) (fun b b0 b1 e i => p1 _ i (xpk_ne (p := b) (x := x) ⟨b0, b1⟩ (by omega) e).2.2.2 (kP b0 b1).2) q4
  · rcases p with ⟨p0, p1, p2⟩ | ⟨p0, -⟩
    · rcases q with ⟨q0, q1, q2⟩ | ⟨q0, -⟩
      · exact ⟨⟨((h.1.f f rfl).r (fun i => hf 599 i (nne rfl) (nne rfl) (nne rfl) (nne rfl) (nne rfl)) (hk 1 (zne rfl) (zne rfl) (zne rfl) (zne rfl))), (same q0 p2 q2), ((h.2.2.1.f f rfl).r (fun i _ _ => (hk i (by omega) (by omega) (by omega) (by omega)))), ((h.2.2.2.1.f f rfl).r (fun i => hf 622 i (nne rfl) (nne rfl) (nne rfl) (nne rfl) (nne rfl)) (hk 34 (zne rfl) (zne rfl) (zne rfl) (zne rfl))), ((h.2.2.2.2.1.f f rfl).r (fun a i _ _ => hf a i (by omega) (by omega) (by omega) (by omega) (by omega))), ((h.2.2.2.2.2.1.f f rfl).r (fun a i _ _ => hf a i (by omega) (by omega) (by omega) (by omega) (by omega))), ((h.2.2.2.2.2.2.f f rfl).r hG hI (fun a i _ _ => hf a i (by omega) (by omega) (by omega) (by omega) (by omega)))⟩, by omega⟩
      · exact absurd q0.1 hx
    · exact absurd p0.1 hx
theorem op_read {C D R S : jm} {r r2 : Int} (h : RDA C R) (hG : RG1 R) (hI : RI R) {x : Int} (f : FR W_c_PacketWall_read_x C D) (p : (((x < 0 ∨ 23 < x) ∧ r = -3 ∧ D = C) ∨ (((0 ≤ x ∧ x ≤ 23) ∧ C (xe 2 x) 1 = -1) ∧ (D 9 0 = 2 ∧ D 9 1 = 0 ∧ D 9 2 = -1 ∧ D 9 3 = -1) ∧ r = -12) ∨ (((0 ≤ x ∧ x ≤ 23) ∧ C (xe 2 x) 1 ≠ -1) ∧ ∃ C_ : Int, HE (rf R x) (C (xe 2 x) 1) C_ ∧ RDF (rf R x) (C (xe 2 x) 1) C_ (D 9 0) (D 9 1) (D 9 2) (D 9 3) r))) (q : (((x < 0 ∨ 23 < x) ∧ r2 = -3 ∧ S = R) ∨ (((0 ≤ x ∧ x ≤ 23) ∧ R 600 x = -1) ∧ (S 598 13 = 2 ∧ S 598 14 = 0 ∧ S 598 15 = -1 ∧ S 598 16 = -1) ∧ r2 = -12) ∨ (((0 ≤ x ∧ x ≤ 23) ∧ R 600 x ≠ -1) ∧ ∃ C_ : Int, HE (rf R x) (R 600 x) C_ ∧ RDF (rf R x) (R 600 x) C_ (S 598 13) (S 598 14) (S 598 15) (S 598 16) r2))) (hf : ∀ (a : Nat) (i : Int), a ≠ 598 → a ≠ 603 → a ≠ 604 → a ≠ 605 → S a i = R a i) (hk : ∀ (i : Int), i ≠ 6 → i ≠ 10 → i ≠ 11 → i ≠ 12 → i ≠ 13 → i ≠ 14 → i ≠ 15 → i ≠ 16 → S 598 i = R 598 i) (hS : RI S) : RDA D S ∧ r = r2 := by
  have b13 : -1 ≤ S 598 13 := (hS 598 13 (by decide)).1
  by_cases hx : 0 ≤ x ∧ x ≤ 23
  · have hN := (h.2.1 x (by omega) (by omega)).1
    rw [hN] at p
    rcases p with ⟨p0, p1, p2⟩ | ⟨p0, p1, p2⟩ | ⟨p0, c1, p1, p2⟩ <;> rcases q with ⟨q0, q1, q2⟩ | ⟨q0, q1, q2⟩ | ⟨q0, c2, q1, q2⟩
    · omega
    · omega
    · omega
    · omega
    · refine ⟨⟨((h.1.f f rfl).r (fun i => hf 599 i (nne rfl) (nne rfl) (nne rfl) (nne rfl)) (hk 1 (zne rfl) (zne rfl) (zne rfl) (zne rfl) (zne rfl) (zne rfl) (zne rfl) (zne rfl))), ((h.2.1.f f rfl).r (fun a i _ _ => hf a i (by omega) (by omega) (by omega) (by omega))), ?_, ((h.2.2.2.1.f f rfl).r (fun i => hf 622 i (nne rfl) (nne rfl) (nne rfl) (nne rfl)) (hk 34 (zne rfl) (zne rfl) (zne rfl) (zne rfl) (zne rfl) (zne rfl) (zne rfl) (zne rfl))), ((h.2.2.2.2.1.f f rfl).r (fun a i _ _ => hf a i (by omega) (by omega) (by omega) (by omega))), ((h.2.2.2.2.2.1.f f rfl).r (fun a i _ _ => hf a i (by omega) (by omega) (by omega) (by omega))), ((h.2.2.2.2.2.2.f f rfl).r hG hI (fun a i _ _ => hf a i (by omega) (by omega) (by omega) (by omega)))⟩, by omega⟩
      unfold RDf
      rw [if_neg (by omega)]
      omega
    · exact absurd p0.2 q0.2
    · omega
    · exact absurd q0.2 p0.2
    · have e := HE.u p1 q1
      subst e
      obtain ⟨p3, p4⟩ := p2
      obtain ⟨q3, q4⟩ := q2
      rcases p4 with p4 | p4 <;> rcases q4 with q4 | q4
      · refine ⟨⟨((h.1.f f rfl).r (fun i => hf 599 i (nne rfl) (nne rfl) (nne rfl) (nne rfl)) (hk 1 (zne rfl) (zne rfl) (zne rfl) (zne rfl) (zne rfl) (zne rfl) (zne rfl) (zne rfl))), ((h.2.1.f f rfl).r (fun a i _ _ => hf a i (by omega) (by omega) (by omega) (by omega))), ?_, ((h.2.2.2.1.f f rfl).r (fun i => hf 622 i (nne rfl) (nne rfl) (nne rfl) (nne rfl)) (hk 34 (zne rfl) (zne rfl) (zne rfl) (zne rfl) (zne rfl) (zne rfl) (zne rfl) (zne rfl))), ((h.2.2.2.2.1.f f rfl).r (fun a i _ _ => hf a i (by omega) (by omega) (by omega) (by omega))), ((h.2.2.2.2.2.1.f f rfl).r (fun a i _ _ => hf a i (by omega) (by omega) (by omega) (by omega))), ((h.2.2.2.2.2.2.f f rfl).r hG hI (fun a i _ _ => hf a i (by omega) (by omega) (by omega) (by omega)))⟩, by omega⟩
        unfold RDf
        rw [if_neg (by omega)]
        omega
      · exact absurd p4.1 q4.1
      · exact absurd q4.1 p4.1
      · have nf := hF_n (rf R x) (R 600 x) c1
        refine ⟨⟨((h.1.f f rfl).r (fun i => hf 599 i (nne rfl) (nne rfl) (nne rfl) (nne rfl)) (hk 1 (zne rfl) (zne rfl) (zne rfl) (zne rfl) (zne rfl) (zne rfl) (zne rfl) (zne rfl))), ((h.2.1.f f rfl).r (fun a i _ _ => hf a i (by omega) (by omega) (by omega) (by omega))), ?_, ((h.2.2.2.1.f f rfl).r (fun i => hf 622 i (nne rfl) (nne rfl) (nne rfl) (nne rfl)) (hk 34 (zne rfl) (zne rfl) (zne rfl) (zne rfl) (zne rfl) (zne rfl) (zne rfl) (zne rfl))), ((h.2.2.2.2.1.f f rfl).r (fun a i _ _ => hf a i (by omega) (by omega) (by omega) (by omega))), ((h.2.2.2.2.2.1.f f rfl).r (fun a i _ _ => hf a i (by omega) (by omega) (by omega) (by omega))), ((h.2.2.2.2.2.2.f f rfl).r hG hI (fun a i _ _ => hf a i (by omega) (by omega) (by omega) (by omega)))⟩, by omega⟩
        unfold RDf
        rw [if_neg (by omega)]
        omega
  · rcases p with ⟨p0, p1, p2⟩ | ⟨p0, -⟩ | ⟨p0, -⟩
    · rcases q with ⟨q0, q1, q2⟩ | ⟨q0, -⟩ | ⟨q0, -⟩
      · rw [p2, q2]
        exact ⟨h, by omega⟩
      · exact absurd q0.1 hx
      · exact absurd q0.1 hx
    · exact absurd p0.1 hx
    · exact absurd p0.1 hx
end
section
/-! ===== both sides answer alike: flows, pools, tick, export, restore ===== -/
theorem FL.s0 {C R : jm} {t : Nat} {f : Int} (h : FL C R t f) : (C (t + 1) 0 = R 630 (2 * f) ∧ C (t + 2) 0 = R 631 (2 * f) ∧ C (t + 5) 0 = R 635 (2 * f)) ∧ (C (t + 6) 0 = R 636 (2 * f) ∧ C (t + 7) 0 = R 637 (2 * f)) ∧ C (t + 4) 0 = R 632 (2 * f) ∧ C (t + 3) 0 = l6x R (2 * f) := by
  have q := h.2.1 0 (by decide) (by decide)
  simp only [Int.add_zero] at q
  exact q
theorem FL.s1 {C R : jm} {t : Nat} {f : Int} (h : FL C R t f) : (C (t + 1) 1 = R 630 (2 * f + 1) ∧ C (t + 2) 1 = R 631 (2 * f + 1) ∧ C (t + 5) 1 = R 635 (2 * f + 1)) ∧ (C (t + 6) 1 = R 636 (2 * f + 1) ∧ C (t + 7) 1 = R 637 (2 * f + 1)) ∧ C (t + 4) 1 = R 632 (2 * f + 1) ∧ C (t + 3) 1 = l6x R (2 * f + 1) := h.2.1 1 (by decide) (by decide)
theorem fg_eq {C R : jm} {t : Nat} {f w Z : Int} (h : FL C R t f) (hT : Z = R 598 2) : fgF C t w Z = fg6 R f w := by
  have a := h.s0
  have b := h.s1
  have e9 : C t 15 = if R 640 f = -1 then -1 else R 642 f := by
    rcases h.2.2.2.1 with q | q
    · rw [if_pos q.1]; exact q.2
    · rw [if_neg q.1]; exact q.2.2.1
  unfold fgF fg6
  rw [h.1.1, h.1.2.1, h.1.2.2.1, h.1.2.2.2.1, a.1.2.1, b.1.2.1, a.2.2.2, b.2.2.2, a.1.2.2, b.1.2.2, e9, hT]
  rfl
theorem fl_eq {C R : jm} {t : Nat} {f w : Int} (h : FL C R t f) : fgL C t w = fl6 R f w := by
  have a := h.s0
  have b := h.s1
  unfold fgL fl6
  rw [a.1.1, b.1.1, a.2.1.1, b.2.1.1, a.2.1.2, b.2.1.2]
theorem op_flow {C R : jm} {r r2 x y : Int} (h : RDA C R) (hT : C 0 8 = R 598 2) (p : ((x < 0 ∨ 23 < x ∨ C (xe (C 15 0).toNat x) 0 = 0) ∧ r = -2) ∨ (((0 ≤ x ∧ x ≤ 23) ∧ C (xe (C 15 0).toNat x) 0 ≠ 0) ∧ r = fgF C (xe (C 15 0).toNat x) y (C 0 8))) (q : (((x < 0 ∨ 23 < x ∨ R 627 x = 0) ∧ r2 = -2) ∨ (((0 ≤ x ∧ x ≤ 23) ∧ R 627 x ≠ 0) ∧ r2 = fg6 R x y))) : r = r2 := by
  by_cases hx : 0 ≤ x ∧ x ≤ 23
  · have w := h.2.2.2.2.2.1.2 x (by omega) (by omega)
    rw [w.1] at p
    by_cases hu : R 627 x = 0
    · omega
    · rw [fg_eq (w.2 hu) hT] at p
      omega
  · omega
theorem op_flowed {C R : jm} {r r2 x y : Int} (h : RDA C R) (p : ((x < 0 ∨ 23 < x ∨ C (xe (C 15 0).toNat x) 0 = 0) ∧ r = -1) ∨ (((0 ≤ x ∧ x ≤ 23) ∧ C (xe (C 15 0).toNat x) 0 ≠ 0) ∧ r = fgL C (xe (C 15 0).toNat x) y)) (q : (((x < 0 ∨ 23 < x ∨ R 627 x = 0) ∧ r2 = -1) ∨ (((0 ≤ x ∧ x ≤ 23) ∧ R 627 x ≠ 0) ∧ r2 = fl6 R x y))) : r = r2 := by
  by_cases hx : 0 ≤ x ∧ x ≤ 23
  · have w := h.2.2.2.2.2.1.2 x (by omega) (by omega)
    rw [w.1] at p
    by_cases hu : R 627 x = 0
    · omega
    · rw [fl_eq (w.2 hu)] at p
      omega
  · omega
noncomputable def O7 (R S : jm) (x : Int) : Prop := (∀ (b : Nat) (j : Int), j ≠ x → (b = 627 ∨ b = 628 ∨ b = 629 ∨ (638 ≤ b ∧ b ≤ 642)) → S b j = R b j) ∧ ∀ (b : Nat) (j : Int), (j < 2 * x ∨ 2 * x + 2 ≤ j) → (630 ≤ b ∧ b ≤ 637) → S b j = R b j
theorem RDw.one {C D R S : jm} (h : RDw C R) {x : Int} (hx : 0 ≤ x ∧ x < 24) (e0 : D 15 0 = C 15 0) (e1 : D 15 1 = C 15 1) (ed : ∀ (b : Nat) (k : Int), 29 ≤ b → b ≤ 412 → (b < xe (C 15 0).toNat x ∨ xe (C 15 0).toNat x + 7 < b) → D b k = C b k) (es : O7 R S x) (hn : FR1 D S (xe (C 15 0).toNat x) x) : RDw D S := by
  refine ⟨by rw [e0, e1]; exact h.1, fun f f0 f1 => ?_⟩
  rw [e0]
  by_cases e : f = x
  · subst e
    exact hn
  · have a := xfl (V := C 15 0) h.1.1 ⟨f0, f1⟩
    have d := xfl_d h.1.1 hx (k := f) ⟨f0, f1⟩ e
    have q := h.2 f f0 f1
    refine ⟨?_, fun u => ?_⟩
    · rw [ed _ 0 (by omega) (by omega) (by omega), es.1 627 f e (by decide)]
      exact q.1
    · rw [es.1 627 f e (by decide)] at u
      exact ((q.2 u).e (fun j _ => ed _ j (by omega) (by omega) (by omega)) (fun d j d0 d1 => ed _ j (by omega) (by omega) (by omega))).r (fun b hb => es.1 b f e (by omega)) (fun b s b0 b1 s0 s1 => es.2 b _ (by omega) ⟨b0, b1⟩)
theorem pu_eq {C R : jm} (h : RDw C R) (k : Int) : ∀ (n : Nat) (i : Int), 0 ≤ i → i + n ≤ 24 → pu C (C 15 0).toNat k n i = pu6 R k n i := by
  intro n
  induction n with
  | zero => intro i _ _; rfl
  | succ n ih =>
    intro i i0 i1
    have q := h.2 i i0 (by omega)
    unfold pu pu6
    rw [ih (i + 1) (by omega) (by omega), q.1]
    by_cases u : R 627 i = 0
    · rw [if_neg (by omega), if_neg (by omega)]
    · rw [(q.2 u).1.2.2.2.2]
theorem tk_eq {C R : jm} (h : RDw C R) (a o : Int) : ∀ (n : Nat) (i : Int), 0 ≤ i → i + n ≤ 24 → tk C (C 15 0).toNat a o n i = tk6 R a o n i := by
  intro n
  induction n with
  | zero => intro i _ _; rfl
  | succ n ih =>
    intro i i0 i1
    have q := h.2 i i0 (by omega)
    unfold tk tk6
    rw [ih (i + 1) (by omega) (by omega), q.1]
    by_cases u : R 627 i = 0
    · rw [if_neg (by omega), if_neg (by omega)]
    · have w := q.2 u
      rw [w.1.2.2.2.2]
      rcases w.2.2.2.1 with z | z
      · rw [if_neg (by omega), if_neg (by omega)]
      · rw [z.2.1, z.2.2.1]
theorem ch_eq {C R : jm} (h : RDw C R) (a p : Int) : ∀ (n : Nat) (i : Int), chf C (C 15 0).toNat a p n i = ch6 R a p n i := by
  intro n
  induction n with
  | zero => intro i; rfl
  | succ n ih =>
    intro i
    unfold chf ch6
    rw [ih (i + 1), tk_eq h a (p + i) 24 0 (by decide) (by decide)]
theorem op_close {C D R S : jm} {r r2 : Int} (h : RDA C R) (hG : RG1 R) (hI : RI R) {x : Int} (f : FR W_c_PacketWall_close_x C D) (p : (((x < 0 ∨ 23 < x ∨ C (xe (C 15 0).toNat x) 0 = 0) ∧ r = -2 ∧ D = C) ∨ (((0 ≤ x ∧ x ≤ 23) ∧ C (xe (C 15 0).toNat x) 0 ≠ 0) ∧ r = 1 ∧ D = ju C (xe (C 15 0).toNat x) 0 0))) (q : (((x < 0 ∨ 23 < x ∨ R 627 x = 0) ∧ r2 = -2 ∧ S = R) ∨ (((0 ≤ x ∧ x ≤ 23) ∧ R 627 x ≠ 0) ∧ r2 = 1 ∧ S = ju R 627 x 0))) (hf : ∀ (a : Nat) (i : Int), a ≠ 627 → S a i = R a i) : RDA D S ∧ r = r2 := by
  by_cases hx : 0 ≤ x ∧ x ≤ 23
  · have w := h.2.2.2.2.2.1.2 x (by omega) (by omega)
    rw [w.1] at p
    rcases p with ⟨p0, p1, p2⟩ | ⟨p0, p1, p2⟩ <;> rcases q with ⟨q0, q1, q2⟩ | ⟨q0, q1, q2⟩
    · rw [p2, q2]
      exact ⟨h, by omega⟩
    · exact absurd p0 (by omega)
    · exact absurd q0 (by omega)
    · have a := xfl (V := C 15 0) h.2.2.2.2.2.1.1.1 (i := x) (by omega)
      refine ⟨⟨((h.1.f f rfl).r (fun i => hf 599 i (nne rfl)) (hf 598 1 (nne rfl))), ((h.2.1.f f rfl).r (fun a i _ _ => hf a i (by omega))), ((h.2.2.1.f f rfl).r (fun i _ _ => (hf 598 i (nne rfl)))), ((h.2.2.2.1.f f rfl).r (fun i => hf 622 i (nne rfl)) (hf 598 34 (nne rfl))), ((h.2.2.2.2.1.f f rfl).r (fun a i _ _ => hf a i (by omega))), ?_, ((h.2.2.2.2.2.2.f f rfl).r hG hI (fun a i _ _ => hf a i (by omega)))⟩, by omega⟩
      refine RDw.one h.2.2.2.2.2.1 (x := x) (by omega) (by rw [p2]; exact ju_c _ _ (by omega)) (by rw [p2]; exact ju_c _ _ (by omega)) (fun b k _ _ hb => by rw [p2]; exact ju_c _ _ (by omega)) ⟨fun b j hj _ => by rw [q2]; exact ju_i _ _ hj, fun b j _ hb => by rw [q2]; exact ju_c _ _ (by omega)⟩ ⟨by rw [p2, q2, ju_same, ju_same], fun u => ?_⟩
      rw [q2, ju_same] at u
      exact absurd rfl u
  · rcases p with ⟨p0, p1, p2⟩ | ⟨p0, -⟩
    · rcases q with ⟨q0, q1, q2⟩ | ⟨q0, -⟩
      · rw [p2, q2]
        exact ⟨h, by omega⟩
      · exact absurd q0.1 hx
    · exact absurd p0.1 hx
theorem op_pool {C D R S : jm} {r r2 : Int} (h : RDA C R) (hG : RG1 R) (hI : RI R) {x y z u : Int} (f : FR W_c_PacketWall_pool_x C D) (p : ((¬ ((0 ≤ x ∧ x ≤ 3) ∧ (1 ≤ u ∧ u ≤ 32) ∧ (1 ≤ z ∧ z + u ≤ 65536)) ∧ r = -3 ∧ D = C) ∨ (((0 ≤ x ∧ x ≤ 3) ∧ (1 ≤ u ∧ u ≤ 32) ∧ (1 ≤ z ∧ z + u ≤ 65536)) ∧ pu C (C 15 0).toNat x 24 0 = 1 ∧ r = -4 ∧ D = C) ∨ (((0 ≤ x ∧ x ≤ 3) ∧ (1 ≤ u ∧ u ≤ 32) ∧ (1 ≤ z ∧ z + u ≤ 65536)) ∧ pu C (C 15 0).toNat x 24 0 ≠ 1 ∧ r = u ∧ D = ju (ju (ju C 26 x (y % 4294967296)) 27 x z) 28 x u))) (q : ((¬ ((0 ≤ x ∧ x ≤ 3) ∧ (1 ≤ u ∧ u ≤ 32) ∧ (1 ≤ z ∧ z + u ≤ 65536)) ∧ r2 = -3 ∧ S = R) ∨ (((0 ≤ x ∧ x ≤ 3) ∧ (1 ≤ u ∧ u ≤ 32) ∧ (1 ≤ z ∧ z + u ≤ 65536)) ∧ pu6 R x 24 0 = 1 ∧ r2 = -4 ∧ S = R) ∨ (((0 ≤ x ∧ x ≤ 3) ∧ (1 ≤ u ∧ u ≤ 32) ∧ (1 ≤ z ∧ z + u ≤ 65536)) ∧ pu6 R x 24 0 ≠ 1 ∧ r2 = u ∧ S = ju (ju (ju (ju R 643 x 1) 644 x (y % 4294967296)) 645 x z) 646 x u))) (hf : ∀ (a : Nat) (i : Int), a ≠ 643 → a ≠ 644 → a ≠ 645 → a ≠ 646 → S a i = R a i) : RDA D S ∧ r = r2 := by
  rw [pu_eq h.2.2.2.2.2.1 x 24 0 (by decide) (by decide)] at p
  rcases p with ⟨p0, p1, p2⟩ | ⟨p0, p1, p2, p3⟩ | ⟨p0, p1, p2, p3⟩ <;> rcases q with ⟨q0, q1, q2⟩ | ⟨q0, q1, q2, q3⟩ | ⟨q0, q1, q2, q3⟩
  · rw [p2, q2]
    exact ⟨h, by omega⟩
  · exact absurd q0 p0
  · exact absurd q0 p0
  · exact absurd p0 q0
  · rw [p3, q3]
    exact ⟨h, by omega⟩
  · exact absurd p1 q1
  · exact absurd p0 q0
  · exact absurd q1 p1
  · refine ⟨⟨((h.1.f f rfl).r (fun i => hf 599 i (nne rfl) (nne rfl) (nne rfl) (nne rfl)) (hf 598 1 (nne rfl) (nne rfl) (nne rfl) (nne rfl))), ((h.2.1.f f rfl).r (fun a i _ _ => hf a i (by omega) (by omega) (by omega) (by omega))), ((h.2.2.1.f f rfl).r (fun i _ _ => (hf 598 i (nne rfl) (nne rfl) (nne rfl) (nne rfl)))), ((h.2.2.2.1.f f rfl).r (fun i => hf 622 i (nne rfl) (nne rfl) (nne rfl) (nne rfl)) (hf 598 34 (nne rfl) (nne rfl) (nne rfl) (nne rfl))), ?_, ((h.2.2.2.2.2.1.f f rfl).r (fun a i _ _ => hf a i (by omega) (by omega) (by omega) (by omega))), ((h.2.2.2.2.2.2.f f rfl).r hG hI (fun a i _ _ => hf a i (by omega) (by omega) (by omega) (by omega)))⟩, by omega⟩
    have d6 : ∀ k : Int, D 26 k = ju C 26 x (y % 4294967296) 26 k := fun k => by rw [p3]; exact (ju_c _ _ (by decide)).trans (ju_c _ _ (by decide))
    have d7 : ∀ k : Int, D 27 k = ju C 27 x z 27 k := fun k => by
      rw [p3, ju_c _ _ (by decide)]
      by_cases e : k = x
      · subst e; rw [ju_same, ju_same]
      · simp only [ju_i _ _ e]
    have d8 : ∀ k : Int, D 28 k = ju C 28 x u 28 k := fun k => by
      rw [p3]
      by_cases e : k = x
      · subst e; rw [ju_same, ju_same]
      · simp only [ju_i _ _ e]
    refine ⟨fun k => ?_, fun k k0 k1 => ?_⟩
    · rw [d7]
      by_cases e : k = x
      · subst e; rw [ju_same]; omega
      · rw [ju_i _ _ e]; exact h.2.2.2.2.1.1 k
    · by_cases e : k = x
      · subst e
        have s3 : S 643 k = 1 := by rw [q3, ju_c _ _ (by decide), ju_c _ _ (by decide), ju_c _ _ (by decide), ju_same]
        refine ⟨fun v => ?_, fun _ => ?_⟩
        · rw [s3] at v
          exact absurd v (by decide)
        · rw [d6, d7, d8, ju_same, ju_same, ju_same, q3]
          refine ⟨?_, ?_, ?_, by omega⟩
          · rw [ju_c _ _ (by decide), ju_c _ _ (by decide), ju_same]
          · rw [ju_c _ _ (by decide), ju_same]
          · rw [ju_same]
      · have s : ∀ a : Nat, S a k = R a k := fun a => by rw [q3, ju_i _ _ e, ju_i _ _ e, ju_i _ _ e, ju_i _ _ e]
        rw [d6, d7, d8, ju_i _ _ e, ju_i _ _ e, ju_i _ _ e, s, s, s, s]
        exact h.2.2.2.2.1.2 k k0 k1
theorem op_change {C D R S : jm} {r r2 : Int} (h : RDA C R) (hG : RG1 R) (hI : RI R) {x y : Int} (f : FR W_c_PacketWall_change_x C D) (p : (((x < 0 ∨ 23 < x ∨ C (xe (C 15 0).toNat x) 0 = 0) ∧ r = -2 ∧ D = C) ∨ (((0 ≤ x ∧ x ≤ 23) ∧ C (xe (C 15 0).toNat x) 0 ≠ 0) ∧ (((y < 0 ∨ 3 < y) ∧ r = -3 ∧ D = C) ∨ ((0 ≤ y ∧ y ≤ 3) ∧ (C (xe (C 15 0).toNat x) 1 ≠ 0 ∨ C (xe (C 15 0).toNat x) 2 = 1 ∨ C (xe (C 15 0).toNat x) 13 ≠ -1 ∨ C 28 y = 0) ∧ r = -4 ∧ D = C) ∨ (((0 ≤ y ∧ y ≤ 3) ∧ ¬ (C (xe (C 15 0).toNat x) 1 ≠ 0 ∨ C (xe (C 15 0).toNat x) 2 = 1 ∨ C (xe (C 15 0).toNat x) 13 ≠ -1 ∨ C 28 y = 0)) ∧ ((chf C (C 15 0).toNat (C 26 y) (C 27 y) (C 28 y).toNat 0 = -1 ∧ r = -5 ∧ D = C) ∨ (chf C (C 15 0).toNat (C 26 y) (C 27 y) (C 28 y).toNat 0 ≠ -1 ∧ r = C 27 y + chf C (C 15 0).toNat (C 26 y) (C 27 y) (C 28 y).toNat 0 ∧ D = ju (ju (ju C (xe (C 15 0).toNat x) 13 y) (xe (C 15 0).toNat x) 14 (C 26 y)) (xe (C 15 0).toNat x) 15 (C 27 y + chf C (C 15 0).toNat (C 26 y) (C 27 y) (C 28 y).toNat 0))))))) ) (q : (((x < 0 ∨ 23 < x ∨ R 627 x = 0) ∧ r2 = -2 ∧ S = R) ∨ (((0 ≤ x ∧ x ≤ 23) ∧ R 627 x ≠ 0) ∧ (((y < 0 ∨ 3 < y) ∧ r2 = -3 ∧ S = R) ∨ ((0 ≤ y ∧ y ≤ 3) ∧ (R 628 x ≠ 0 ∨ R 629 x = 1 ∨ R 640 x ≠ -1 ∨ R 643 y = 0) ∧ r2 = -4 ∧ S = R) ∨ (((0 ≤ y ∧ y ≤ 3) ∧ ¬ (R 628 x ≠ 0 ∨ R 629 x = 1 ∨ R 640 x ≠ -1 ∨ R 643 y = 0)) ∧ ((ch6 R (R 644 y) (R 645 y) (R 646 y).toNat 0 = -1 ∧ r2 = -5 ∧ S = R) ∨ (ch6 R (R 644 y) (R 645 y) (R 646 y).toNat 0 ≠ -1 ∧ r2 = R 645 y + ch6 R (R 644 y) (R 645 y) (R 646 y).toNat 0 ∧ S = ju (ju (ju R 640 x y) 641 x (R 644 y)) 642 x (R 645 y + ch6 R (R 644 y) (R 645 y) (R 646 y).toNat 0))))))) ) (hf : ∀ (a : Nat) (i : Int), a ≠ 640 → a ≠ 641 → a ≠ 642 → S a i = R a i) : RDA D S ∧ r = r2 := by
  have fin : ∀ (e1 : D = C) (e2 : S = R) (e3 : r = r2), RDA D S ∧ r = r2 := fun e1 e2 e3 => ⟨by rw [e1, e2]; exact h, e3⟩
  by_cases hx : 0 ≤ x ∧ x ≤ 23
  · have w := h.2.2.2.2.2.1.2 x (by omega) (by omega)
    by_cases hu : R 627 x = 0
    · rcases p with ⟨p0, p1, p2⟩ | ⟨p0, -⟩
      · rcases q with ⟨q0, q1, q2⟩ | ⟨q0, -⟩
        · exact fin p2 q2 (by omega)
        · exact absurd hu q0.2
      · exact absurd (w.1.trans hu) p0.2
    · have fl := w.2 hu
      rcases p with ⟨p0, -⟩ | ⟨-, p⟩
      · rw [w.1] at p0
        exact absurd p0 (by omega)
      · rcases q with ⟨q0, -⟩ | ⟨-, q⟩
        · exact absurd q0 (by omega)
        · by_cases hy : 0 ≤ y ∧ y ≤ 3
          · have ho := h.2.2.2.2.1.2 y (by omega) (by omega)
            have hz : C 28 y = 0 ↔ R 643 y = 0 := by
              by_cases z : R 643 y = 0
              · exact ⟨fun _ => z, fun _ => ho.1 z⟩
              · have := (ho.2 z).2.2.2
                exact ⟨fun v => by omega, fun v => absurd v z⟩
            rw [fl.1.1, fl.1.2.1, fl.1.2.2.2.2, hz] at p
            rcases p with ⟨p0, -⟩ | ⟨p0, p1, p2, p3⟩ | ⟨p0, p1⟩
            · exact absurd p0 (by omega)
            · rcases q with ⟨q0, -⟩ | ⟨q0, q1, q2, q3⟩ | ⟨q0, q1⟩
              · exact absurd q0 (by omega)
              · exact fin p3 q3 (by omega)
              · exact absurd p1 q0.2
            · rcases q with ⟨q0, -⟩ | ⟨q0, q1, q2, q3⟩ | ⟨q0, q1⟩
              · exact absurd q0 (by omega)
              · exact absurd q1 p0.2
              · have z : R 643 y ≠ 0 := fun v => q0.2 (Or.inr (Or.inr (Or.inr v)))
                obtain ⟨o1, o2, o3, o4⟩ := ho.2 z
                rw [o1, o2, o3, ch_eq h.2.2.2.2.2.1] at p1
                rcases p1 with ⟨a0, a1, a2⟩ | ⟨a0, a1, a2⟩ <;> rcases q1 with ⟨b0, b1, b2⟩ | ⟨b0, b1, b2⟩
                · exact fin a2 b2 (by omega)
                · exact absurd a0 b0
                · exact absurd b0 a0
                · have a := xfl (V := C 15 0) h.2.2.2.2.2.1.1.1 (i := x) (by omega)
                  refine ⟨⟨((h.1.f f rfl).r (fun i => hf 599 i (nne rfl) (nne rfl) (nne rfl)) (hf 598 1 (nne rfl) (nne rfl) (nne rfl))), ((h.2.1.f f rfl).r (fun a i _ _ => hf a i (by omega) (by omega) (by omega))), ((h.2.2.1.f f rfl).r (fun i _ _ => (hf 598 i (nne rfl) (nne rfl) (nne rfl)))), ((h.2.2.2.1.f f rfl).r (fun i => hf 622 i (nne rfl) (nne rfl) (nne rfl)) (hf 598 34 (nne rfl) (nne rfl) (nne rfl))), ((h.2.2.2.2.1.f f rfl).r (fun a i _ _ => hf a i (by omega) (by omega) (by omega))), ?_, ((h.2.2.2.2.2.2.f f rfl).r hG hI (fun a i _ _ => hf a i (by omega) (by omega) (by omega)))⟩, by omega⟩
                  have dt : ∀ k : Int, k ≠ 13 → k ≠ 14 → k ≠ 15 → D (xe (C 15 0).toNat x) k = C (xe (C 15 0).toNat x) k := fun k k1 k2 k3 => by rw [a2, ju_i _ _ k3, ju_i _ _ k2, ju_i _ _ k1]
                  have dd : ∀ (b : Nat) (k : Int), b ≠ (xe (C 15 0).toNat x) → D b k = C b k := fun b k hb => by rw [a2, ju_c _ _ hb, ju_c _ _ hb, ju_c _ _ hb]
                  have s0 : S 640 x = y := by rw [b2, ju_c _ _ (by decide), ju_c _ _ (by decide), ju_same]
                  have sb : ∀ (b : Nat) (j : Int), b ≠ 640 → b ≠ 641 → b ≠ 642 → S b j = R b j := fun b j h0 h1 h2 => by rw [b2, ju_c _ _ h2, ju_c _ _ h1, ju_c _ _ h0]
                  refine RDw.one h.2.2.2.2.2.1 (x := x) (by omega) (dd 15 0 (by omega)) (dd 15 1 (by omega)) (fun b k _ _ hb => dd b k (by omega)) ⟨fun b j hj hb => by rw [b2, ju_i _ _ hj, ju_i _ _ hj, ju_i _ _ hj], fun b j _ hb => sb b j (by omega) (by omega) (by omega)⟩ ⟨by rw [dt 0 (by decide) (by decide) (by decide), sb 627 x (by decide) (by decide) (by decide)]; exact w.1, fun _ => ?_⟩
                  obtain ⟨f1, f2, f3, f4, f5⟩ := fl
                  refine ⟨?_, fun s s0' s1 => ?_, ?_, Or.inr ⟨?_, ?_, ?_, ?_, ?_⟩, ?_⟩
                  · rw [dt 1 (by decide) (by decide) (by decide), dt 2 (by decide) (by decide) (by decide), dt 5 (by decide) (by decide) (by decide), dt 6 (by decide) (by decide) (by decide), sb 628 x (by decide) (by decide) (by decide), sb 629 x (by decide) (by decide) (by decide), sb 638 x (by decide) (by decide) (by decide), sb 639 x (by decide) (by decide) (by decide), s0]
                    refine ⟨f1.1, f1.2.1, f1.2.2.1, f1.2.2.2.1, ?_⟩
                    rw [a2, ju_i _ _ (zne (by decide)), ju_i _ _ (zne (by decide)), ju_same]
                  · rw [dd _ s (by omega), dd _ s (by omega), dd _ s (by omega), dd _ s (by omega), dd _ s (by omega), dd _ s (by omega), dd _ s (by omega), sb 630 _ (by decide) (by decide) (by decide), sb 631 _ (by decide) (by decide) (by decide), sb 635 _ (by decide) (by decide) (by decide), sb 636 _ (by decide) (by decide) (by decide), sb 637 _ (by decide) (by decide) (by decide), l6x_e (sb 632 _ (by decide) (by decide) (by decide)) (sb 633 _ (by decide) (by decide) (by decide)), sb 632 _ (by decide) (by decide) (by decide)]
                    exact f2 s s0' s1
                  · rw [dt 12 (by decide) (by decide) (by decide), sb 634 _ (by decide) (by decide) (by decide), sb 634 _ (by decide) (by decide) (by decide)]
                    exact f3
                  · rw [s0]; omega
                  · rw [a2, b2, ju_i _ _ (zne (by decide)), ju_same, ju_c _ _ (by decide), ju_same]
                  · rw [a2, b2, ju_same, ju_same]
                  · rw [sb 628 x (by decide) (by decide) (by decide)]; omega
                  · rw [sb 629 x (by decide) (by decide) (by decide)]; omega
                  · rw [sb 629 x (by decide) (by decide) (by decide), sb 638 x (by decide) (by decide) (by decide)]; exact f5
          · rcases p with ⟨p0, p1, p2⟩ | ⟨p0, -⟩ | ⟨p0, -⟩
            · rcases q with ⟨q0, q1, q2⟩ | ⟨q0, -⟩ | ⟨q0, -⟩
              · exact fin p2 q2 (by omega)
              · exact absurd q0 hy
              · exact absurd q0.1 hy
            · exact absurd p0 hy
            · exact absurd p0.1 hy
  · rcases p with ⟨p0, p1, p2⟩ | ⟨p0, -⟩
    · rcases q with ⟨q0, q1, q2⟩ | ⟨q0, -⟩
      · exact fin p2 q2 (by omega)
      · exact absurd q0.1 hx
    · exact absurd p0.1 hx
theorem op_tick {C D R S : jm} {r r2 : Int} (h : RDA C R) (hG : RG1 R) (hI : RI R) {x : Int} (hT : C 0 8 = R 598 2) (f : FR W_c_PacketWall_tick_x C D) (p : ((1 ≤ x ∧ x ≤ 1000) ∧ r = C 0 8 + x ∧ D 0 8 = C 0 8 + x ∧ TGA C D (C 0 8 + x) 8 ∧ TFA C D (C 15 0).toNat (C 0 8 + x) 24) ∨ (¬ (1 ≤ x ∧ x ≤ 1000) ∧ r = -3 ∧ D = C)) (q : (((1 ≤ x ∧ x ≤ 1000) ∧ r2 = R 598 2 + x ∧ S 598 2 = R 598 2 + x ∧ (∀ j : Int, 0 ≤ j → j < 8 → S 606 j = if R 612 j ≤ R 598 2 + x then 0 else R 606 j) ∧ (∀ j : Int, 0 ≤ j → j < 24 → S 627 j = if R 639 j ≤ R 598 2 + x then 0 else R 627 j)) ∨ (¬ (1 ≤ x ∧ x ≤ 1000) ∧ r2 = -3 ∧ S = R))) (hf : ∀ (a : Nat) (i : Int), a ≠ 598 → a ≠ 606 → a ≠ 624 → a ≠ 627 → S a i = R a i) (hk : ∀ (i : Int), i ≠ 2 → S 598 i = R 598 i) : RDA D S ∧ r = r2 := by
  rcases p with ⟨p0, p1, p2, p3, p4⟩ | ⟨p0, p1, p2⟩ <;> rcases q with ⟨q0, q1, q2, q3, q4⟩ | ⟨q0, q1, q2⟩
  · refine ⟨⟨((h.1.f f rfl).r (fun i => hf 599 i (nne rfl) (nne rfl) (nne rfl) (nne rfl)) (hk 1 (zne rfl))), ((h.2.1.f f rfl).r (fun a i _ _ => hf a i (by omega) (by omega) (by omega) (by omega))), ((h.2.2.1.f f rfl).r (fun i _ _ => (hk i (by omega)))), ((h.2.2.2.1.f f rfl).r (fun i => hf 622 i (nne rfl) (nne rfl) (nne rfl) (nne rfl)) (hk 34 (zne rfl))), ((h.2.2.2.2.1.f f rfl).r (fun a i _ _ => hf a i (by omega) (by omega) (by omega) (by omega))), ?_, ?_⟩, by omega⟩
    · have e0 : D 15 0 = C 15 0 := f.g (show kd 15 = 9 from rfl) rfl
      have e1 : D 15 1 = C 15 1 := f.g (show kd 15 = 9 from rfl) rfl
      refine ⟨by rw [e0, e1]; exact h.2.2.2.2.2.1.1, fun i i0 i1 => ?_⟩
      rw [e0]
      have w := h.2.2.2.2.2.1.2 i i0 i1
      have k := kV h.2.2.2.2.2.1.1.1 i0 i1
      have kf := kF k
      have a := p4 i i0 i1
      have b := q4 i i0 i1
      refine ⟨?_, fun u => ?_⟩
      · rw [a, b, hT, w.1]
        by_cases z : R 627 i = 0
        · rw [z]; (repeat' split) <;> rfl
        · rw [(w.2 z).1.2.2.2.1]
          by_cases y : R 639 i ≤ R 598 2 + x
          · rw [if_pos ⟨by omega, y⟩, if_pos y]
          · rw [if_neg (by omega), if_neg y]
      · have z : R 627 i ≠ 0 := fun z => by
          rw [b, z] at u
          (split at u) <;> exact u rfl
        refine ((w.2 z).e (fun j hj => ?_) (fun d j d0 d1 => ?_)).r (fun b hb => hf b i (by omega) (by omega) (by omega) (by omega)) (fun b s b0 b1 _ _ => hf b _ (by omega) (by omega) (by omega) (by omega))
        · rcases hj with rfl | rfl | rfl | rfl | rfl | rfl | rfl | rfl <;> exact f.g k rfl
        · rcases (show d = 1 ∨ d = 2 ∨ d = 3 ∨ d = 4 ∨ d = 5 ∨ d = 6 ∨ d = 7 by omega) with rfl | rfl | rfl | rfl | rfl | rfl | rfl
          · exact f.g kf.1 rfl
          · exact f.g kf.2.1 rfl
          · exact f.g kf.2.2.1 rfl
          · exact f.g kf.2.2.2.1 rfl
          · exact f.g kf.2.2.2.2.1 rfl
          · exact f.g kf.2.2.2.2.2.1 rfl
          · exact f.g kf.2.2.2.2.2.2 rfl
    · have up : ∀ g : Int, 0 ≤ g → g < 8 → S 606 g ≠ 0 → R 606 g ≠ 0 := fun g g0 g1 u z => by
        rw [q3 g g0 g1, z] at u
        (split at u) <;> exact u rfl
      refine ⟨fun g k g0 g1 k0 k1 u v w => h.2.2.2.2.2.2.1 g k g0 g1 k0 k1 (up g g0 g1 u) (up k k0 k1 v) ?_, fun g g0 g1 => ?_⟩
      · rw [hf 607 _ (nne rfl) (nne rfl) (nne rfl) (nne rfl), hf 607 _ (nne rfl) (nne rfl) (nne rfl) (nne rfl), hf 608 _ (nne rfl) (nne rfl) (nne rfl) (nne rfl), hf 608 _ (nne rfl) (nne rfl) (nne rfl) (nne rfl), hf 609 _ (nne rfl) (nne rfl) (nne rfl) (nne rfl), hf 609 _ (nne rfl) (nne rfl) (nne rfl) (nne rfl), hf 610 _ (nne rfl) (nne rfl) (nne rfl) (nne rfl), hf 610 _ (nne rfl) (nne rfl) (nne rfl) (nne rfl), hf 611 _ (nne rfl) (nne rfl) (nne rfl) (nne rfl), hf 611 _ (nne rfl) (nne rfl) (nne rfl) (nne rfl)] at w
        exact w
      · have w := h.2.2.2.2.2.2.2 g g0 g1
        have k := kGa g0 g1
        have a := p3 g g0 g1
        have b := q3 g g0 g1
        refine ⟨?_, fun u => ?_⟩
        · rw [a, b, hT, w.1]
          by_cases z : R 606 g = 0
          · rw [z]; (repeat' split) <;> rfl
          · rw [(w.2 z).1.2.2.2.2.2]
            by_cases y : R 612 g ≤ R 598 2 + x
            · rw [if_pos ⟨by omega, y⟩, if_pos y]
            · rw [if_neg (by omega), if_neg y]
        · have z := up g g0 g1 u
          have z2 := RG1.q hG hI g0 z
          refine ((w.2 z).e (fun j hj => ?_) (fun j => f.g (kf_15_9 k).2 rfl) (fun j => f.g (kf_15_10 k).2 rfl)).r z2.1 z2.2 (fun b b0 b1 _ _ _ => hf b g (by omega) (by omega) (by omega) (by omega)) (fun k _ _ => ⟨hf 615 _ (by decide) (by decide) (by decide) (by decide), hf 616 _ (nne rfl) (nne rfl) (nne rfl) (nne rfl)⟩) (fun k _ _ => hf 618 _ (nne rfl) (nne rfl) (nne rfl) (nne rfl))
          rcases hj with rfl | rfl | rfl | rfl | rfl | rfl | rfl | rfl | rfl | rfl | rfl <;> exact f.g k rfl
  · exact absurd p0 q0
  · exact absurd q0 p0
  · rw [p2, q2]
    exact ⟨h, by omega⟩
theorem row_eq {C R : jm} {t : Nat} {f Z : Int} (h : FL C R t f) (hI : RI R) (hT : Z = R 598 2) : rcB C t Z = B6x R f := by
  have a := h.s0
  have b := h.s1
  have st : (0 : Int) ≤ R 638 f ∧ R 638 f ≤ 15 := by have q := hI 638 f (Nat.le_of_ble_eq_true rfl); rw [xri_row rfl rfl] at q; exact q
  have fg : flgF C t = flg6 R f := by
    unfold flgF flg6
    rw [h.1.1, a.2.2.1, b.2.2.1, h.2.2.1.1]
  have fr : 0 ≤ flg6 R f ∧ flg6 R f ≤ 240 := by
    unfold flg6
    (repeat' split) <;> omega
  unfold rcB B6x
  rw [fg, h.1.2.1, h.1.2.2.1, h.1.2.2.2.1, a.1.1, a.1.2.1, a.1.2.2, a.2.1.1, a.2.1.2, a.2.2.2, b.1.1, b.1.2.1, b.1.2.2, b.2.1.1, b.2.1.2, b.2.2.2, hT, j_w_id (by omega)]
theorem ex_eq {C R : jm} (h : RDw C R) (hI : RI R) {Z : Int} (hT : Z = R 598 2) (f : Int → Int) : exL (uC C (C 15 0).toNat) (bC C (C 15 0).toNat Z) f 24 = exL (u6x R) (B6x R) f 24 := exL_e 24 (fun i i0 i1 => by
  have w := h.2 i i0 (by omega)
  by_cases u : R 627 i = 0
  · rw [uC_0 (by rw [w.1]; omega), u6_0 (by omega)]
    exact ⟨rfl, fun v => absurd rfl v⟩
  · have fl := w.2 u
    refine ⟨?_, fun _ => row_eq fl hI hT⟩
    unfold uC u6x
    rw [w.1, fl.1.2.2.2.2])
theorem op_export {C D R S : jm} {r r2 : Int} (h : RDA C R) (hG : RG1 R) (hI : RI R) (hT : C 0 8 = R 598 2) (f : FR W_c_PacketWall_export_x C D) (p : (D 1 = (exL (uC C (C 15 0).toNat) (bC C (C 15 0).toNat (C 0 8)) (C 1) 24).1 ∧ r = (exL (uC C (C 15 0).toNat) (bC C (C 15 0).toNat (C 0 8)) (C 1) 24).2) ∧ D 0 1 = r) (q : (S 599 = (exL (u6x R) (B6x R) (R 599) 24).1 ∧ S 598 1 = (exL (u6x R) (B6x R) (R 599) 24).2 ∧ r2 = S 598 1)) (hf : ∀ (a : Nat) (i : Int), a ≠ 598 → a ≠ 599 → S a i = R a i) (hk : ∀ (i : Int), i ≠ 1 → S 598 i = R 598 i) : RDA D S ∧ r = r2 := by
  rw [ex_eq h.2.2.2.2.2.1 hI hT, h.1.1] at p
  have e : r = r2 := by rw [q.2.2, q.2.1, p.1.2]
  refine ⟨⟨?_, ((h.2.1.f f rfl).r (fun a i _ _ => hf a i (by omega) (by omega))), ((h.2.2.1.f f rfl).r (fun i _ _ => (hk i (by omega)))), ((h.2.2.2.1.f f rfl).r (fun i => hf 622 i (nne rfl) (nne rfl)) (hk 34 (zne rfl))), ((h.2.2.2.2.1.f f rfl).r (fun a i _ _ => hf a i (by omega) (by omega))), ((h.2.2.2.2.2.1.f f rfl).r (fun a i _ _ => hf a i (by omega) (by omega))), ((h.2.2.2.2.2.2.f f rfl).r hG hI (fun a i _ _ => hf a i (by omega) (by omega)))⟩, e⟩
  exact ⟨by rw [p.1.1, q.1], by rw [p.2, e, q.2.2]⟩
theorem rr_fl {D S : jm} {t : Nat} {k Z L : Int} {g : Int → Int} (h1 : RRD D t g (48 * k) Z) (h2 : RR6 S k g (48 * k) Z) (ok : okR g L k) : FL D S t k := by
  obtain ⟨⟨a0, a1, a2, a3, a4, a5⟩, as, a6, a7⟩ := h1
  obtain ⟨⟨b0, b1, b2, b3⟩, bs, b4, b5, b6, b7, b8⟩ := h2
  have lv := ok.2.1.2.2.2.2
  have x0 := bs 0 (by decide) (by decide)
  have x1 := bs 1 (by decide) (by decide)
  unfold S6 at x0 x1
  simp only [Int.add_zero] at x0
  refine ⟨⟨a1.trans b3.symm, a2.trans b1.symm, a3.trans b2.symm, ?_, a4.trans b0.symm⟩, fun s s0 s1 => ?_, ⟨?_, ?_⟩, Or.inl ⟨b0, a5⟩, ?_⟩
  · rw [a7, b4, if_pos lv]
  · have u := as s s0 s1
    have v := bs s s0 s1
    refine ⟨⟨u.1.2.2.1.trans v.2.2.2.2.1.symm, u.1.1.trans v.2.2.1.symm, u.1.2.1.trans v.2.2.2.1.symm⟩, ⟨?_, ?_⟩, u.1.2.2.2.trans v.1.symm, ?_⟩
    · rw [u.2.2.1]
      unfold tPk
      rcases (show s = 0 ∨ s = 1 by omega) with rfl | rfl
      · rw [if_pos rfl, Int.add_zero, b5]
      · rw [if_neg (by decide), b6]
    · rw [u.2.2.2]
      unfold tBy
      rcases (show s = 0 ∨ s = 1 by omega) with rfl | rfl
      · rw [if_pos rfl, Int.add_zero, b7]
      · rw [if_neg (by decide), b8]
    · rw [u.2.1]
      unfold tLa l6x
      rw [v.1, v.2.2.2.2.2]
  · rw [a6, x1.2.1, if_neg (by decide)]
  · rw [x0.2.1]; simp
  · rw [b1, b2]
    exact ok.2.1.2.1
theorem op_restore {C D R S : jm} {r r2 : Int} (h : RDA C R) (hG : RG1 R) (hI : RI R) (hT : C 0 8 = R 598 2) (f : FR W_c_PacketWall_restore_x C D) (hl : D 0 1 = 0) (p : RTQ (ju C 0 1 0) D (C 15 0) (C 15 1) (C 0 1) (C 0 8) r) (q : RS6 R S r2) (hf : ∀ (a : Nat) (i : Int), a ≠ 598 → a ≠ 627 → a ≠ 628 → a ≠ 629 → a ≠ 630 → a ≠ 631 → a ≠ 632 → a ≠ 633 → a ≠ 634 → a ≠ 635 → a ≠ 636 → a ≠ 637 → a ≠ 638 → a ≠ 639 → a ≠ 640 → S a i = R a i) (hk : ∀ (i : Int), i ≠ 1 → S 598 i = R 598 i) : RDA D S ∧ r = r2 := by
  have j1 : ju C 0 1 0 1 = R 599 := (funext (fun i => ju_c _ _ (by decide))).trans h.1.1
  obtain ⟨p1, p2⟩ := p
  obtain ⟨q1, q2, q3⟩ := q
  unfold RTQ at *
  rw [j1, h.1.2] at p1
  have e := RTR.u p1 q1
  have e1 : D 1 = C 1 := funext (fun i => f.g (show kd 1 = 43 from rfl) rfl)
  have e2 : S 599 = R 599 := funext (fun i => hf 599 i (nne rfl) (nne rfl) (nne rfl) (nne rfl) (nne rfl) (nne rfl) (nne rfl) (nne rfl) (nne rfl) (nne rfl) (nne rfl) (nne rfl) (nne rfl) (nne rfl) (nne rfl))
  have hV := h.2.2.2.2.2.1.1
  refine ⟨⟨?_, ((h.2.1.f f rfl).r (fun a i _ _ => hf a i (by omega) (by omega) (by omega) (by omega) (by omega) (by omega) (by omega) (by omega) (by omega) (by omega) (by omega) (by omega) (by omega) (by omega) (by omega))), ((h.2.2.1.f f rfl).r (fun i _ _ => (hk i (by omega)))), ((h.2.2.2.1.f f rfl).r (fun i => hf 622 i (nne rfl) (nne rfl) (nne rfl) (nne rfl) (nne rfl) (nne rfl) (nne rfl) (nne rfl) (nne rfl) (nne rfl) (nne rfl) (nne rfl) (nne rfl) (nne rfl) (nne rfl)) (hk 34 (zne rfl))), ((h.2.2.2.2.1.f f rfl).r (fun a i _ _ => hf a i (by omega) (by omega) (by omega) (by omega) (by omega) (by omega) (by omega) (by omega) (by omega) (by omega) (by omega) (by omega) (by omega) (by omega) (by omega))), ?_, ((h.2.2.2.2.2.2.f f rfl).r hG hI (fun a i _ _ => hf a i (by omega) (by omega) (by omega) (by omega) (by omega) (by omega) (by omega) (by omega) (by omega) (by omega) (by omega) (by omega) (by omega) (by omega) (by omega)))⟩, e⟩
  · exact ⟨by rw [e1, e2]; exact h.1.1, by rw [hl, q2]⟩
  · rcases p2 with ⟨a0, a1⟩ | ⟨a0, a1, a2, a3⟩ <;> rcases q3 with ⟨b0, b1⟩ | ⟨b0, b1, b2⟩
    · have d : ∀ (b : Nat) (k : Int), ¬ inF (C 15 1) b → (b ≠ 0 ∨ k ≠ 1) → D b k = C b k := fun b k hb h01 => by
        rw [a1 b k hb]
        exact ju_ne _ _ (by omega)
      have n : ∀ i : Int, 0 ≤ i → i < 24 → ∀ b : Nat, xe (C 15 0).toNat i ≤ b → b ≤ xe (C 15 0).toNat i + 7 → ¬ inF (C 15 1) b := fun i i0 i1 b b0 b1 => by
        rintro ⟨j, j0, j1, j2⟩
        have x1 := xfl (V := C 15 0) hV.1 ⟨i0, i1⟩
        have x2 := xfl (V := C 15 1) (by omega) j0
        omega
      have dz0 : D 15 0 = C 15 0 := d 15 0 (inF_n (by omega) (by decide)) (Or.inl (by decide))
      have dz1 : D 15 1 = C 15 1 := d 15 1 (inF_n (by omega) (by decide)) (Or.inl (by decide))
      refine ⟨by rw [dz0, dz1]; exact hV, fun i i0 i1 => ?_⟩
      rw [dz0]
      have w := h.2.2.2.2.2.1.2 i i0 i1
      have x1 := xfl (V := C 15 0) hV.1 ⟨i0, i1⟩
      refine ⟨?_, fun u => ?_⟩
      · rw [d _ 0 (n i i0 i1 _ (by omega) (by omega)) (Or.inl (by omega)), b1 627 i (by decide) (by decide)]
        exact w.1
      · rw [b1 627 i (by decide) (by decide)] at u
        exact ((w.2 u).e (fun j _ => d _ j (n i i0 i1 _ (by omega) (by omega)) (Or.inl (by omega))) (fun d' j d0 d1 => d _ j (n i i0 i1 _ (by omega) (by omega)) (Or.inl (by omega)))).r (fun b hb => b1 b i (by omega) (by omega)) (fun b s b0 b1' _ _ => b1 b _ (by omega) (by omega))
    · omega
    · omega
    · refine ⟨by rw [a1.1, a1.2]; omega, fun i i0 i1 => ?_⟩
      rw [a1.1]
      have t := b2 i i0 i1
      by_cases z : i < r
      · have ok := (a2 i i0 z).1.2
        have rd := (a2 i i0 z).2
        rw [j1, h.1.2] at ok
        rw [j1, hT] at rd
        have r6 := t.1 (by omega)
        refine ⟨by rw [rd.1.1, r6.1], fun _ => rr_fl rd r6.2 ok⟩
      · have l := t.2 (by omega)
        refine ⟨by rw [a3 i (by omega) i1, l], fun u => absurd l u⟩
end
section
/-! ===== both sides answer alike: ends, turn, track ===== -/
theorem HT.y {M : jm} {f : Int → Int} {N C x : Int} (h : HT M f N C) (hx : 0 ≤ x ∧ x < C) : 0 ≤ hY f N x := by
  have q := hst_y h.2.2.2 h.2.2.1.2 x.toNat (fun i i0 i1 => (h.2.1 i i0 (by omega)).1)
  rw [Int.toNat_of_nonneg hx.1] at q
  exact q
/-- the ends that both sides hold -/
noncomputable def EQE (E E6 : jm) : Prop := (E 18 1 = E6 598 59 ∧ E 18 2 = E6 598 60) ∧ (E (18 + 1) 0 = E6 598 61 ∧ E (18 + 1) 1 = E6 598 62) ∧ E (18 + 2) 0 = E6 598 63 ∧ E (18 + 2) 1 = E6 598 64
theorem eqe {E E6 : jm} {f : Int → Int} {N C t h : Int} (a : E2F E f N C t h) (b : EN6 E6 f N C t h) : EQE E E6 := by
  have a0 := a.2 0 (by decide) (by decide)
  have a1 := a.2 1 (by decide) (by decide)
  exact ⟨⟨a.1.1.trans b.1.1.1.symm, a.1.2.trans b.1.1.2.symm⟩, ⟨a0.1.trans b.1.2.1.1.symm, a1.1.trans b.1.2.1.2.symm⟩, a0.2.trans b.1.2.2.1.symm, a1.2.trans b.1.2.2.2.symm⟩
theorem sd_eq {C R : jm} (h : RDw C R) (e : EQE C R) {f : Int} (f0 : 0 ≤ f) (f1 : f < 24) : sdF C (xe (C 15 0).toNat f) 18 = sd6 R f := by
  have w := h.2 f f0 f1
  obtain ⟨e1, e2, e3⟩ := e
  unfold sdF sd6
  by_cases u : R 627 f = 0
  · rw [if_pos (Or.inl (w.1.trans u)), if_pos (Or.inl u)]
  · have fl := w.2 u
    have a := fl.s0
    have b := fl.s1
    have h4 := fl.2.2.2.1
    rw [w.1, fl.1.1, fl.1.2.1, fl.1.2.2.2.2, a.1.1, a.1.2.1, b.1.1, b.1.2.1, e1.1, e1.2, e2.1, e2.2, e3.1, e3.2]
    (repeat' split) <;> omega
theorem fe_eq {C R : jm} (h : RDw C R) (e : EQE C R) : ∀ (n : Nat) (i : Int), 0 ≤ i → i + n ≤ 24 → feF C (C 15 0).toNat n i = fe6 R n i := by
  intro n
  induction n with
  | zero => intro i _ _; rfl
  | succ n ih =>
    intro i i0 i1
    unfold feF fe6
    rw [ih (i + 1) (by omega) (by omega), sd_eq h e i0 (by omega)]
theorem fr_eq {C R : jm} (h : RDw C R) : ∀ (n : Nat) (i : Int), 0 ≤ i → i + n ≤ 24 → frF C (C 15 0).toNat n i = fE6 R n i := by
  intro n
  induction n with
  | zero => intro i _ _; rfl
  | succ n ih =>
    intro i i0 i1
    unfold frF fE6
    rw [ih (i + 1) (by omega) (by omega), (h.2 i i0 (by omega)).1]
theorem RDw.ot {C H E R E6 : jm} (h : RDw C R) (f : FR W_c_Headers_readAll_x C H) (o : OT5 H E) (s : ∀ (b : Nat) (i : Int), 627 ≤ b → b ≤ 642 → E6 b i = R b i) : RDw E E6 ∧ E 15 0 = C 15 0 ∧ E 15 1 = C 15 1 := by
  have h1 := h.f f rfl
  have z0 : H 15 0 = C 15 0 := f.g (show kd 15 = 9 from rfl) rfl
  have z1 : H 15 1 = C 15 1 := f.g (show kd 15 = 9 from rfl) rfl
  have y0 : E 15 0 = H 15 0 := o.2 0 (by decide) (by decide) (by decide)
  have y1 : E 15 1 = H 15 1 := o.2 1 (by decide) (by decide) (by decide)
  exact ⟨(h1.e (fun b k b0 b1 => o.1 b k (by omega) (by omega) (by omega) (by omega)) y0 y1).r s, y0.trans z0, y1.trans z1⟩
theorem RDp.ot {C H E R S : jm} (h : RDp C R) (f : FR W_c_Headers_readAll_x C H) (o : OT5 H E) (s : ∀ (b : Nat) (i : Int), 600 ≤ b → b ≤ 601 → S b i = R b i) : RDp E S := fun p p0 p1 => by
  have a := xpk (g := p) ⟨p0, p1⟩
  have q := ((h.f f rfl).r s) p p0 p1
  refine ⟨?_, fun i i0 i1 => ?_⟩
  · rw [o.1 _ 1 (by omega) (by omega) (by omega) (by omega)]; exact q.1
  · rw [o.1 _ i (by omega) (by omega) (by omega) (by omega)]; exact q.2 i i0 i1
theorem FND.ot {T E : jm} {f : Int → Int} {N C F r : Int} (h : FND T E f N C F r) : OT5 T E := by
  rcases h with h | h
  · exact h.2.2
  · exact h.2.2.1
theorem FND.he {T E : jm} {f : Int → Int} {N C F r : Int} (h : FND T E f N C F r) (hi : F = 0 ↔ hX f N C = -1) : (r = 1 ↔ heG f N C) ∧ (r = 0 ↔ ¬ heG f N C) := by
  rcases h with h | h
  · rw [heG_i hi] at h
    exact ⟨⟨fun u => by omega, fun u => absurd u h.1⟩, ⟨fun _ => h.1, fun _ => h.2.1⟩⟩
  · rw [heG_i hi] at h
    exact ⟨⟨fun _ => h.1, fun _ => h.2.1⟩, ⟨fun u => by omega, fun u => absurd h.1 u⟩⟩
theorem FND.in1 {T E : jm} {f : Int → Int} {N C F : Int} (h : FND T E f N C F 1) : (E 15 3 = ntf f N C ∧ E 15 4 = inf f N C (ntf f N C)) ∧ ((qfF f N C (inf f N C (ntf f N C)) ∧ E 15 5 = 1 ∧ E2F E f N C (inf f N C (ntf f N C) + 1) (inf f N C (ntf f N C) + 2)) ∨ (¬ qfF f N C (inf f N C (ntf f N C)) ∧ E 15 5 = 0 ∧ E2F E f N C (ntf f N C) (inf f N C (ntf f N C)))) := by
  rcases h with h | h
  · exact absurd h.2.1 (by decide)
  · exact h.2.2.2
theorem HE.c0 {f : Int → Int} {N C : Int} (h : HE f N C) : 0 ≤ C := h.1.1
theorem fe6_r (M : jm) : ∀ (n : Nat) (i : Int), 0 ≤ i → fe6 M n i = -1 ∨ ((i ≤ fe6 M n i ∧ fe6 M n i < i + n) ∧ sd6 M (fe6 M n i) ≠ -1) := by
  intro n
  induction n with
  | zero => intro i _; exact Or.inl rfl
  | succ n ih =>
    intro i hi
    unfold fe6
    by_cases h : sd6 M i ≠ -1
    · rw [if_pos h]; exact Or.inr ⟨by omega, h⟩
    · rw [if_neg h]
      rcases ih (i + 1) (by omega) with q | q
      · exact Or.inl q
      · exact Or.inr ⟨by omega, q.2⟩
theorem sd6_r (M : jm) (f : Int) : sd6 M f = -1 ∨ ((M 627 f ≠ 0 ∧ M 629 f = M 598 60) ∧ (sd6 M f = 0 ∨ sd6 M f = 1)) := by
  unfold sd6
  (repeat' split) <;> omega
theorem op_turn {C D R S : jm} {r r2 : Int} (h : RDA C R) (hG : RG1 R) (hI : RI R) {x : Int} (f : FR W_c_PacketWall_turn_x C D) (p : ((x < 0 ∨ 23 < x ∨ C (xe 2 x) 1 = -1) ∧ r = -2 ∧ D = C) ∨ (((0 ≤ x ∧ x ≤ 23) ∧ C (xe 2 x) 1 ≠ -1) ∧ ∃ (C_ : Int) (H : jm), HE (rf R x) (C (xe 2 x) 1) C_ ∧ (H 3 4 = 0 ↔ hX (rf R x) (C (xe 2 x) 1) C_ = -1) ∧ FR W_c_Headers_readAll_x C H ∧ H 3 7 = ((xe 2 x : Nat) : Int) ∧ RWQ H D (rf R x) (C (xe 2 x) 1) C_ (H 3 4) (C 15 0).toNat (H 3 7) r)) (q : TU6 R S x r2) (hf : ∀ (a : Nat) (i : Int), a ≠ 598 → a ≠ 601 → a ≠ 603 → a ≠ 604 → a ≠ 605 → S a i = R a i) (hk : ∀ (i : Int), i ≠ 6 → i ≠ 10 → i ≠ 11 → i ≠ 12 → i ≠ 59 → i ≠ 60 → i ≠ 61 → i ≠ 62 → i ≠ 63 → i ≠ 64 → i ≠ 65 → i ≠ 66 → S 598 i = R 598 i) : RDA D S ∧ r = r2 := by
  have sw : ∀ (b : Nat) (i : Int), 627 ≤ b → b ≤ 642 → S b i = R b i := fun b i _ _ => hf b i (by omega) (by omega) (by omega) (by omega) (by omega)
  have s0 : ∀ i : Int, S 600 i = R 600 i := fun i => hf 600 i (nne rfl) (nne rfl) (nne rfl) (nne rfl) (nne rfl)
  have rest : RDw D S → RDp D S → r = r2 → RDA D S ∧ r = r2 := fun hw hp e => ⟨⟨((h.1.f f rfl).r (fun i => hf 599 i (nne rfl) (nne rfl) (nne rfl) (nne rfl) (nne rfl)) (hk 1 (zne rfl) (zne rfl) (zne rfl) (zne rfl) (zne rfl) (zne rfl) (zne rfl) (zne rfl) (zne rfl) (zne rfl) (zne rfl) (zne rfl))), hp, ((h.2.2.1.f f rfl).r (fun i _ _ => (hk i (by omega) (by omega) (by omega) (by omega) (by omega) (by omega) (by omega) (by omega) (by omega) (by omega) (by omega) (by omega)))), ((h.2.2.2.1.f f rfl).r (fun i => hf 622 i (nne rfl) (nne rfl) (nne rfl) (nne rfl) (nne rfl)) (hk 34 (zne rfl) (zne rfl) (zne rfl) (zne rfl) (zne rfl) (zne rfl) (zne rfl) (zne rfl) (zne rfl) (zne rfl) (zne rfl) (zne rfl))), ((h.2.2.2.2.1.f f rfl).r (fun a i _ _ => hf a i (by omega) (by omega) (by omega) (by omega) (by omega))), hw, ((h.2.2.2.2.2.2.f f rfl).r hG hI (fun a i _ _ => hf a i (by omega) (by omega) (by omega) (by omega) (by omega)))⟩, e⟩
  by_cases hx : 0 ≤ x ∧ x ≤ 23
  · have hN := (h.2.1 x (by omega) (by omega)).1
    rw [hN] at p
    rcases p with ⟨p0, p1, p2⟩ | ⟨p0, c1, H, p1, p2, p3, p4, p5⟩ <;> rcases q with ⟨q0, q1, q2⟩ | ⟨q0, c2, q1, q2⟩
    · rw [p2, q2]
      exact ⟨h, by omega⟩
    · exact absurd p0 (by omega)
    · exact absurd q0 (by omega)
    · have ec := HE.u p1 q1
      subst ec
      rcases p5 with ⟨a1, a2⟩ | ⟨E, a1, a2⟩
      · have ng := (a1.he p2).2.1 rfl
        rcases q2 with ⟨b0, b1, b2⟩ | ⟨b0, -⟩
        · exact rest (RDw.ot h.2.2.2.2.2.1 p3 a1.ot sw).1 (h.2.1.ot p3 a1.ot (fun b i b0 b1' => by rcases (show b = 600 ∨ b = 601 by omega) with rfl | rfl; (exact s0 i); (exact b2 i))) (by omega)
        · exact absurd b0 ng
      · have hg := (a1.he p2).1.1 rfl
        have ot := a1.ot
        have nn := a1.in1
        rcases q2 with ⟨b0, -⟩ | ⟨-, E6, b1, b2, b3⟩
        · exact absurd hg b0
        · have w6 := RDw.ot h.2.2.2.2.2.1 p3 ot b1.1
          have same : D = E → (∀ i : Int, S 601 i = R 601 i) → r = r2 → RDA D S ∧ r = r2 := fun e1 e2 e3 => rest (by rw [e1]; exact (RDw.ot h.2.2.2.2.2.1 p3 ot sw).1) (by rw [e1]; exact h.2.1.ot p3 ot (fun b i b0 b1' => by rcases (show b = 600 ∨ b = 601 by omega) with rfl | rfl; (exact s0 i); (exact e2 i))) e3
          have v0 : (E 15 0).toNat = (C 15 0).toNat := by rw [w6.2.1]
          rcases nn.2 with ⟨m0, m1, m2⟩ | ⟨m0, m1, m2⟩
          · -- the packet quotes another: no flow of its own ends is changed
            rcases a2 with ⟨a3, a4, a5⟩ | ⟨a3, -⟩ | ⟨a3, -⟩
            · rcases b3 with ⟨b4, b5, b6⟩ | ⟨b4, -⟩
              · exact same a5 b6 (by omega)
              · exfalso
                rcases fe6_r E6 24 0 (by decide) with u | u
                · exact b4.1 u
                · have s6 := (sd6_r E6 (fe6 E6 24 0)).resolve_left u.2
                  have fl := (w6.1.2 (fe6 E6 24 0) (by omega) (by omega)).2 s6.1.1
                  have k7 : E6 598 60 = 1 := by rw [b2.1.1.2, m0.1]; rfl
                  rcases fl.2.2.2.1 with z | z
                  · exact b4.2 z.1
                  · exact z.2.2.2.2 (by rw [s6.1.2, k7])
            · omega
            · omega
          · have eq := eqe m2 b2
            have fe := fe_eq w6.1 eq 24 0 (by decide) (by decide)
            rw [v0] at fe
            rw [fe] at a2
            rcases a2 with ⟨a3, -⟩ | ⟨a3, a4, a5, a6⟩ | ⟨a3, a4, a5, a6, a7⟩
            · omega
            · rcases b3 with ⟨b4, b5, b6⟩ | ⟨b4, -⟩
              · exact same a6 b6 (by omega)
              · exfalso
                rcases a4 with u | u
                · exact b4.1 u
                · have rr := (fe6_r E6 24 0 (by decide)).resolve_left b4.1
                  have s6 := (sd6_r E6 (fe6 E6 24 0)).resolve_left rr.2
                  have fl := (w6.1.2 (fe6 E6 24 0) (by omega) (by omega)).2 s6.1.1
                  rw [v0] at fl
                  exact b4.2 (fl.1.2.2.2.2.symm.trans u)
            · have rr := (fe6_r E6 24 0 (by decide)).resolve_left a4.1
              have s6 := (sd6_r E6 (fe6 E6 24 0)).resolve_left rr.2
              have fl := (w6.1.2 (fe6 E6 24 0) (by omega) (by omega)).2 s6.1.1
              have sd := sd_eq w6.1 eq (f := fe6 E6 24 0) (by omega) (by omega)
              rw [v0] at fl sd
              rw [sd] at a5
              rcases b3 with ⟨b4, -⟩ | ⟨b4, b5, b6, b7⟩
              · exfalso
                rcases b4 with u | u
                · exact a4.1 u
                · exact a4.2 (fl.1.2.2.2.2.trans u)
              · have er : r = r2 := a5.trans b5.symm
                have pp : R 600 x = R 600 x := rfl
                refine rest ?_ ?_ er
                · refine RDw.r (RDw.e w6.1 (fun b k b0 b1' => a7 b k ?_) (a7 15 0 ?_) (a7 15 1 ?_)) (fun b i u v => (sw b i u v).trans (b1.1 b i u v).symm)
                  · rw [p4]
                    have := xpk (g := x) (by omega)
                    omega
                  · rw [p4]
                    have := xpk (g := x) (by omega)
                    omega
                  · rw [p4]
                    have := xpk (g := x) (by omega)
                    omega
                · have hp := h.2.1.ot p3 ot (S := R) (fun _ _ _ _ => rfl)
                  have A0 : (if r = 0 then E (xe (C 15 0).toNat (fe6 E6 24 0)) 14 else E (xe (C 15 0).toNat (fe6 E6 24 0) + 1) 0) = (if r2 = 0 then E6 641 (fe6 E6 24 0) else E6 630 (2 * fe6 E6 24 0)) := by
                    rw [er, fl.s0.1.1]
                    rcases fl.2.2.2.1 with z | z
                    · exact absurd z.1 b4.2
                    · rw [z.2.1]
                  have P0 : (if r = 0 then E (xe (C 15 0).toNat (fe6 E6 24 0)) 15 else E (xe (C 15 0).toNat (fe6 E6 24 0) + 2) 0) = (if r2 = 0 then E6 642 (fe6 E6 24 0) else E6 631 (2 * fe6 E6 24 0)) := by
                    rw [er, fl.s0.1.2.1]
                    rcases fl.2.2.2.1 with z | z
                    · exact absurd z.1 b4.2
                    · rw [z.2.2.1]
                  rw [A0, P0, nn.1.1, nn.1.2, er, p4] at a6
                  have zx := xpk (g := x) (by omega)
                  have st : (((xe 2 x : Nat) : Int)).toNat = xe 2 x := Int.toNat_natCast _
                  rw [st] at a6
                  refine rdp_bytes hp (x := x) (by omega) (fun b b0 b1' => ?_) (fun i i0 i1 => (a6 i i0 i1).1) (fun i _ _ => congrFun b6 i) (fun _ _ _ => rfl) (fun b b0 b1' e i => ?_) b7
                  · have zb := xpk (g := b) ⟨b0, b1'⟩
                    rw [a7 _ 1 (by rw [p4, st]; omega), s0 b]
                    exact (hp b b0 b1').1
                  · have n := xpk_ne (p := b) (x := x) ⟨b0, b1'⟩ (by omega) e
                    exact a7 _ i (by rw [p4, st]; exact n.2.2.2)
  · rcases p with ⟨p0, p1, p2⟩ | ⟨p0, -⟩
    · rcases q with ⟨q0, q1, q2⟩ | ⟨q0, -⟩
      · rw [p2, q2]
        exact ⟨h, by omega⟩
      · exact absurd q0.1 hx
    · exact absurd p0.1 hx
end
