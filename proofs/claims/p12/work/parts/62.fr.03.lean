section
theorem r_drop_x {A : Nat → Option (Nat × (Nat → Int32))} {Q : Option Value → jm → Prop} {M : jm} (hI_M : RI M) (hH_M : RH M) (hS_M : RF M) {x : Int} (h_x : (-2147483648) ≤ x ∧ x ≤ 2147483647) (q : ∀ (r : Int) (M' : jm), RI M' → RH M' → RF M' → (-3) ≤ r ∧ r ≤ 1 → (((x < 0 ∨ 23 < x) ∧ r = -3 ∧ M' = M) ∨ ((0 ≤ x ∧ x ≤ 23) ∧ ((M 600 x = -1 ∧ r = 0) ∨ (M 600 x ≠ -1 ∧ r = 1)) ∧ M' = ju (ju M 600 x (-1)) 602 x 0)) → (∀ (a : Nat) (i : Int), a ≠ 600 → a ≠ 602 → M' a i = M a i) → (∀ (i : Int), i ≠ 1 → M' 598 i = M 598 i) → Q (some (.int (Int32.ofInt r))) M') : jc A 3 249 [.ref (598), .int (Int32.ofInt (x))] M Q := by
  refine jc_of (m := xm_249) rfl (Nat.le_of_ble_eq_true rfl) rfl ?_
  refine jr.iload_n rfl rfl ?_
  refine jr_s rfl rfl (Or.inl rfl) ⟨Nat.le_of_ble_eq_true rfl, Nat.le_of_ble_eq_true rfl⟩ rfl rfl (jc.deep (c_isPN (by omega) (fun l1 u1 => ?_) (fun n1 => ?_)) (by decide))
  · refine jr.if_ne rfl rfl (by omega) (fun _ => ?_) (fun h => absurd (by decide) h)
    refine jr.aload_n rfl rfl ?_
    refine jr.getf (i := 3) (v := .ref 600) rfl rfl (by decide) rfl (by decide) rfl rfl rfl rfl ?_
    refine jr.iload_n rfl rfl ?_
    obtain ⟨v1, e1⟩ : ∃ z, M 600 x = z := ⟨_, rfl⟩
    have b1 : (-1) ≤ v1 ∧ v1 ≤ 400 := by rw [← e1]; exact (by have q := hI_M 600 x (by decide); rw [xri_row rfl rfl] at q; exact q)
    refine jr.iald (i := x) (x := v1) rfl (by decide) rfl (by decide) (by omega) (by omega) e1 ?_
    refine jr.iconst rfl ?_
    refine jr.icmp_ne rfl rfl (by omega) (by omega) (fun h17 => ?_) (fun h17 => ?_)
    · have sx17 : (0 : Int) ≤ v1 := by omega
      clear h17
      refine jr.iconst rfl ?_
      refine jr.istore_n (ls' := [_, _, _]) rfl (by decide) rfl ?_
      refine jr.aload_n rfl rfl ?_
      refine jr.getf (i := 3) (v := .ref 600) rfl rfl (by decide) rfl (by decide) rfl rfl rfl rfl ?_
      refine jr.iload_n rfl rfl ?_
      refine jr.iconst rfl ?_
      refine jr.iast (i := x) (x := (-1)) rfl (by decide) rfl (by decide) (by omega) (by omega) ?_
      refine jr.aload_n rfl rfl ?_
      refine jr.getf (i := 5) (v := .ref 602) rfl rfl (by decide) rfl (by decide) rfl rfl rfl rfl ?_
      refine jr.iload_n rfl rfl ?_
      refine jr.lconst (x := 0) rfl (by decide) ?_
      refine jr.last (i := x) (x := 0) rfl (by decide) rfl (by decide) (by omega) (by omega) ?_
      refine jr.iload_n rfl rfl ?_
      exact jr.ireturn rfl rfl rfl (q _ _ (RI.u (RI.u hI_M (a := 600) (i := x) (by rw [xri_row rfl rfl]; show (-1 : Int) ≤ _ ∧ _ ≤ (400 : Int); omega)) (a := 602) (i := x) (by rw [xri_row rfl rfl]; show (-9223372036854775808 : Int) ≤ _ ∧ _ ≤ (9223372036854775807 : Int); omega)) (RH.o (RH.o hH_M (by decide) (by decide) (by decide)) (by decide) (by decide) (by decide)) (RF.o (RF.o hS_M (by decide) (by decide)) (by decide) (by decide))  (by omega) (Or.inr ⟨by omega, by omega, rfl⟩) (fun a i f600 f602 => ((ju_c _ _ f602).trans ((ju_c _ _ f600).trans rfl))) (fun i g1 => ((ju_c _ _ (by decide)).trans ((ju_c _ _ (by decide)).trans rfl))))
    · refine jr.iconst rfl ?_
      refine jr.goto rfl rfl ?_
      refine jr.istore_n (ls' := [_, _, _]) rfl (by decide) rfl ?_
      refine jr.aload_n rfl rfl ?_
      refine jr.getf (i := 3) (v := .ref 600) rfl rfl (by decide) rfl (by decide) rfl rfl rfl rfl ?_
      refine jr.iload_n rfl rfl ?_
      refine jr.iconst rfl ?_
      refine jr.iast (i := x) (x := (-1)) rfl (by decide) rfl (by decide) (by omega) (by omega) ?_
      refine jr.aload_n rfl rfl ?_
      refine jr.getf (i := 5) (v := .ref 602) rfl rfl (by decide) rfl (by decide) rfl rfl rfl rfl ?_
      refine jr.iload_n rfl rfl ?_
      refine jr.lconst (x := 0) rfl (by decide) ?_
      refine jr.last (i := x) (x := 0) rfl (by decide) rfl (by decide) (by omega) (by omega) ?_
      refine jr.iload_n rfl rfl ?_
      exact jr.ireturn rfl rfl rfl (q _ _ (RI.u (RI.u hI_M (a := 600) (i := x) (by rw [xri_row rfl rfl]; show (-1 : Int) ≤ _ ∧ _ ≤ (400 : Int); omega)) (a := 602) (i := x) (by rw [xri_row rfl rfl]; show (-9223372036854775808 : Int) ≤ _ ∧ _ ≤ (9223372036854775807 : Int); omega)) (RH.o (RH.o hH_M (by decide) (by decide) (by decide)) (by decide) (by decide) (by decide)) (RF.o (RF.o hS_M (by decide) (by decide)) (by decide) (by decide))  (by omega) (Or.inr ⟨by omega, by omega, rfl⟩) (fun a i f600 f602 => ((ju_c _ _ f602).trans ((ju_c _ _ f600).trans rfl))) (fun i g1 => ((ju_c _ _ (by decide)).trans ((ju_c _ _ (by decide)).trans rfl))))
  · refine jr.if_ne rfl rfl (by omega) (fun h => absurd h (by decide)) (fun _ => ?_)
    refine jr.bipush rfl (by decide) ?_
    exact jr.ireturn rfl rfl rfl (q _ _ hI_M hH_M hS_M  (by omega) (Or.inl ⟨by omega, by omega, rfl⟩) (fun a i f600 f602 => rfl) (fun i g1 => rfl))
/-- bytes of packet x after a copy of S bytes -/
noncomputable def pk6 (f g : Int → Int) (x S : Int) : Int → Int := fun k => if 400 * x ≤ k ∧ k < 400 * x + S then g (k - 400 * x) else f k
theorem pk6_0 (f g : Int → Int) (x : Int) : f = pk6 f g x 0 := by
  funext k
  unfold pk6
  rw [if_neg (by omega)]
theorem pk6_s {M : jm} {f g : Int → Int} {x k v : Int} (h : M 601 = pk6 f g x k) (h0 : 0 ≤ k) (hv : g k = v) : ju M 601 ((400 * x) + k) v 601 = pk6 f g x (k + 1) := by
  funext j
  by_cases q : j = 400 * x + k
  · subst q
    rw [ju_same]
    unfold pk6
    rw [if_pos (by omega), show 400 * x + k - 400 * x = k by omega, hv]
  · rw [ju_i M v q, h]
    unfold pk6
    by_cases q2 : 400 * x ≤ j ∧ j < 400 * x + k
    · rw [if_pos q2, if_pos (by omega)]
    · rw [if_neg q2, if_neg (by omega)]
theorem ju6_row {M : jm} {a c : Nat} {i v : Int} (h : c ≠ a) : ju M a i v c = M c := funext (fun k => ju_c M v h)
theorem r_packet_L22_x {A : Nat → Option (Nat × (Nat → Int32))} {Q : Option Value → jm → Prop} {M0 : jm} {x0 : Int} (q : ∀ (r : Int) (M' : jm), RI M' → RH M' → RF M' → (-3) ≤ r ∧ r ≤ 400 → (((x0 < 0 ∨ 23 < x0 ∨ 400 < M0 598 1) ∧ r = -3 ∧ M' 598 1 = M0 598 1 ∧ M' 600 = M0 600 ∧ M' 601 = M0 601) ∨ ((0 ≤ x0 ∧ x0 ≤ 23) ∧ M0 598 1 ≤ 400 ∧ r = M0 598 1 ∧ M' 598 1 = 0 ∧ M' 601 = pk6 (M0 601) (M0 599) x0 (M0 598 1) ∧ (∀ j : Int, j ≠ x0 → M' 600 j = M0 600 j) ∧ M' 600 x0 = M0 598 1)) → (∀ (a : Nat) (i : Int), a ≠ 598 → a ≠ 600 → a ≠ 601 → a ≠ 602 → M' a i = M0 a i) → (∀ (i : Int), i ≠ 1 → M' 598 i = M0 598 i) → Q (some (.int (Int32.ofInt r))) M') : ∀ (nM : Nat) (M : jm) (k : Int) (x : Int), RI M → RH M → RF M → (∀ (a : Nat) (i : Int), a ≠ 598 → a ≠ 600 → a ≠ 601 → a ≠ 602 → M a i = M0 a i) → (∀ (i : Int), i ≠ 1 → M 598 i = M0 598 i) → 0 ≤ k ∧ k ≤ 400 → 0 ≤ x ∧ x ≤ 23 → 0 ≤ M 598 1 ∧ M 598 1 ≤ 400 → M 601 = pk6 (M0 601) (M0 599) x k → M 598 1 = M0 598 1 ∧ k ≤ M 598 1 ∧ M0 598 1 ≤ 400 → M 600 = M0 600 → x = x0 → 400 - k ≤ nM → jr A 2 xm_248 22 [(2, .int (Int32.ofInt (k))), (1, .int (Int32.ofInt (x))), (0, .ref (598))] [] M Q := by
  intro nM
  induction nM using Nat.strongRecOn with
  | ind nM ih =>
    intro M k x hI_M hH_M hS_M hF_M hG_M h_k h_x hy0 hy1 hy2 hy3 hy4 hm
    subst hy4
    refine jr.iload_n rfl rfl ?_
    refine jr.aload_n rfl rfl ?_
    obtain ⟨v1, e1⟩ : ∃ z, M 598 1 = z := ⟨_, rfl⟩
    have b1 : 0 ≤ v1 ∧ v1 ≤ 1600 := by rw [← e1]; exact hI_M 598 1 (by decide)
    refine jr.getf (i := 1) (x := v1) (v := .int (Int32.ofInt (v1))) rfl rfl (by decide) rfl (by decide) rfl rfl e1 rfl ?_
    refine jr.icmp_ge rfl rfl (by omega) (by omega) (fun h27 => ?_) (fun h27 => ?_)
    · refine jr.aload_n rfl rfl ?_
      refine jr.getf (i := 3) (v := .ref 600) rfl rfl (by decide) rfl (by decide) rfl rfl rfl rfl ?_
      refine jr.iload_n rfl rfl ?_
      refine jr.aload_n rfl rfl ?_
      refine jr.getf (i := 1) (x := v1) (v := .int (Int32.ofInt (v1))) rfl rfl (by decide) rfl (by decide) rfl rfl e1 rfl ?_
      refine jr.iast (i := x) (x := v1) rfl (by decide) rfl (by decide) (by omega) (by omega) ?_
      refine jr.aload_n rfl rfl ?_
      refine jr.getf (i := 5) (v := .ref 602) rfl rfl (by decide) rfl (by decide) rfl rfl rfl rfl ?_
      refine jr.iload_n rfl rfl ?_
      refine jr.lconst (x := 0) rfl (by decide) ?_
      refine jr.last (i := x) (x := 0) rfl (by decide) rfl (by decide) (by omega) (by omega) ?_
      refine jr.aload_n rfl rfl ?_
      refine jr.iconst rfl ?_
      refine jr.putf (i := 1) (x := 0) rfl rfl (by decide) rfl (by decide) rfl rfl rfl rfl rfl ?_
      refine jr.aload_n rfl rfl ?_
      refine jr.getf (i := 3) (v := .ref 600) rfl rfl (by decide) rfl (by decide) rfl rfl rfl rfl ?_
      refine jr.iload_n rfl rfl ?_
      refine jr.iald (i := x) (x := v1) rfl (by decide) rfl (by decide) (by omega) (by omega) ((ju_c _ _ (by decide)).trans ((ju_c _ _ (by decide)).trans (ju_same _ _ _ _))) ?_
      exact jr.ireturn rfl rfl rfl (q _ _ (RI.u (RI.u (RI.u hI_M (a := 600) (i := x) (by rw [xri_row rfl rfl]; show (-1 : Int) ≤ _ ∧ _ ≤ (400 : Int); omega)) (a := 602) (i := x) (by rw [xri_row rfl rfl]; show (-9223372036854775808 : Int) ≤ _ ∧ _ ≤ (9223372036854775807 : Int); omega)) (a := 598) (i := 1) (show (0 : Int) ≤ _ ∧ _ ≤ (1600 : Int) from by omega)) (RH.o (RH.o (RH.o hH_M (by decide) (by decide) (by decide)) (by decide) (by decide) (by decide)) (by decide) (by decide) (by decide)) (RF.o (RF.o (RF.o hS_M (by decide) (by decide)) (by decide) (by decide)) (by decide) (by decide))  (by omega) (Or.inr ⟨by omega, by omega, by have h9 := hy2; omega, by have hq : (ju (ju (ju M 600 x v1) 602 x 0) 598 1 0) 598 1 = 0 := (ju_same _ _ _ _); omega, by rw [ju6_row (by decide), ju6_row (by decide), ju6_row (by decide), hy1, show k = M0 598 1 from by have h9 := hy2; omega], fun j hj => by rw [ju_c _ _ (by decide), ju_c _ _ (by decide), ju_i _ _ hj]; exact congrFun hy3 j, by have hq : (ju (ju (ju M 600 x v1) 602 x 0) 598 1 0) 600 x = v1 := ((ju_c _ _ (by decide)).trans ((ju_c _ _ (by decide)).trans (ju_same _ _ _ _))); have h9 := hy2; omega⟩) (fun a i f598 f600 f601 f602 => ((ju_c _ _ f598).trans ((ju_c _ _ f602).trans ((ju_c _ _ f600).trans (hF_M a i f598 f600 f601 f602))))) (fun i g1 => ((ju_i _ _ g1).trans ((ju_c _ _ (by decide)).trans ((ju_c _ _ (by decide)).trans (hG_M i g1))))))
    · refine jr.aload_n rfl rfl ?_
      refine jr.getf (i := 4) (v := .ref 601) rfl rfl (by decide) rfl (by decide) rfl rfl rfl rfl ?_
      refine jr.sipush rfl (by decide) ?_
      refine jr.iload_n rfl rfl ?_
      refine jr.imul rfl ?_
      refine jr.iload_n rfl rfl ?_
      refine jr.iadd rfl ?_
      refine jr.aload_n rfl rfl ?_
      refine jr.getf (i := 0) (v := .ref 599) rfl rfl (by decide) rfl (by decide) rfl rfl rfl rfl ?_
      refine jr.iload_n rfl rfl ?_
      obtain ⟨v2, e2⟩ : ∃ z, M 599 k = z := ⟨_, rfl⟩
      have b2 : 0 ≤ v2 ∧ v2 ≤ 255 := by rw [← e2]; exact (by have q := hI_M 599 k (by decide); rw [xri_row rfl rfl] at q; exact q)
      refine jr.iald (i := k) (x := v2) rfl (by decide) rfl (by decide) (by omega) (by omega) e2 ?_
      refine jr.iast (i := ((400 * x) + k)) (x := v2) rfl (by decide) rfl (by decide) (by omega) (by omega) ?_
      refine jr.iinc (ls' := [_, _, _]) rfl rfl (by decide) rfl ?_
      refine jr.goto rfl rfl ?_
      refine jr.pick (ls := [_, _, _]) [0, 1, 2] rfl rfl ?_
      exact ih (nM - 1) (by omega) (ju M 601 ((400 * x) + k) v2) (k + 1) x (RI.u hI_M (a := 601) (i := ((400 * x) + k)) (by rw [xri_row rfl rfl]; show (0 : Int) ≤ _ ∧ _ ≤ (255 : Int); omega)) (RH.o hH_M (by decide) (by decide) (by decide)) (RF.o hS_M (by decide) (by decide))  (fun a i f598 f600 f601 f602 => ((ju_c _ _ f601).trans (hF_M a i f598 f600 f601 f602))) (fun i g1 => ((ju_c _ _ (by decide)).trans (hG_M i g1))) (by omega) (by omega) (by rw [((ju_c _ _ (by decide)).trans e1)]; omega) (pk6_s hy1 (by omega) ((hF_M 599 k (by decide) (by decide) (by decide) (by decide)).symm.trans e2)) (by rw [ju_c _ _ (by decide)]; omega) (by rw [ju6_row (by decide)]; exact hy3) (by omega) (by omega)
end
