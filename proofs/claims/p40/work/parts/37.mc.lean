section
/-! ===== the reference: contracts, 37.mc ===== -/
/-- what is laid aside, and the logs -/
noncomputable def AS (M : jm) (L : Int) : Prop := (0 ≤ M 598 112 ∧ M 598 112 ≤ L) ∧ ∀ f j : Int, 0 ≤ f → 0 ≤ j → j < 102 → (8 ≤ j ∧ j < 12 → 0 ≤ M 685 (102 * f + j) ∧ M 685 (102 * f + j) ≤ 1000) ∧ (12 ≤ j ∧ j < 16 → 0 ≤ M 685 (102 * f + j) ∧ M 685 (102 * f + j) ≤ 16) ∧ (j = 100 → 0 ≤ M 685 (102 * f + j) ∧ M 685 (102 * f + j) ≤ L)
theorem AS.fr {M M' : jm} {L : Int} (h : AS M L) (e : ∀ i : Int, M' 685 i = M 685 i) (g : M' 598 112 = M 598 112) : AS M' L := by
  unfold AS at h ⊢
  rw [g, show M' 685 = M 685 from funext e]
  exact h
theorem AS.o {M : jm} {L : Int} (h : AS M L) {a : Nat} {i v : Int} (h1 : 685 ≠ a) (h2 : 598 ≠ a ∨ 112 ≠ i) : AS (ju M a i v) L := by
  refine h.fr (fun j => ju_c M v h1) ?_
  rcases h2 with h2 | h2
  · exact ju_c M v h2
  · exact ju_i M v h2
theorem AS.l {M : jm} {L : Int} (h : AS M L) {v : Int} (hv : 0 ≤ v ∧ v ≤ L) : AS (ju M 598 112 v) L := by
  unfold AS at h ⊢
  rw [ju_same, jw_o (by decide)]
  exact ⟨hv, h.2⟩
theorem AS.w {M : jm} {L : Int} (h : AS M L) {i v : Int} (hv : ∀ f j : Int, 0 ≤ f → 0 ≤ j → j < 102 → i = 102 * f + j → (8 ≤ j ∧ j < 12 → 0 ≤ v ∧ v ≤ 1000) ∧ (12 ≤ j ∧ j < 16 → 0 ≤ v ∧ v ≤ 16) ∧ (j = 100 → 0 ≤ v ∧ v ≤ L)) : AS (ju M 685 i v) L := by
  refine ⟨by rw [ju_c _ _ (by decide)]; exact h.1, fun f j f0 j0 j1 => ?_⟩
  by_cases e : 102 * f + j = i
  · rw [e, ju_same]
    exact hv f j f0 j0 j1 e.symm
  · rw [ju_i _ _ e]
    exact h.2 f j f0 j0 j1
theorem AS.up {M : jm} {L L' : Int} (h : AS M L) (hl : L ≤ L') : AS M L' := by
  obtain ⟨h1, h2⟩ := h
  refine ⟨⟨h1.1, by omega⟩, fun f j f0 j0 j1 => ?_⟩
  obtain ⟨a, b, c⟩ := h2 f j f0 j0 j1
  exact ⟨a, b, fun q => by have := c q; omega⟩
theorem AS.at {M : jm} {L : Int} (h : AS M L) {f j i : Int} (hf : 0 ≤ f) (hj : 0 ≤ j ∧ j < 102) (e : i = 102 * f + j) : (8 ≤ j ∧ j < 12 → 0 ≤ M 685 i ∧ M 685 i ≤ 1000) ∧ (12 ≤ j ∧ j < 16 → 0 ≤ M 685 i ∧ M 685 i ≤ 16) ∧ (j = 100 → 0 ≤ M 685 i ∧ M 685 i ≤ L) := by
  rw [e]
  exact h.2 f j hf hj.1 hj.2
theorem r_layAside_L115 {A : Nat → Option (Nat × (Nat → Int32))} {Q : Option Value → jm → Prop} {L : Int} {M0 : jm} (q : ∀ (M' : jm), RI M' → RH M' → RF M' → AS M' L → (∀ (a : Nat) (i : Int), a ≠ 685 → M' a i = M0 a i) → Q none M') : ∀ (nM : Nat) (M : jm) (k : Int) (f : Int), RI M → RH M → RF M → (∀ (a : Nat) (i : Int), a ≠ 685 → M a i = M0 a i) → 0 ≤ k ∧ k ≤ 20 → 0 ≤ f ∧ f ≤ 8 → AS M L → L ≤ 2000000000 → 20 - k ≤ nM → jr A 3 xm_373 115 [(3, .int (Int32.ofInt (k))), (1, .int (Int32.ofInt (f))), (2, .int (Int32.ofInt (102 * f))), (0, .ref (598))] [] M Q := by
  intro nM
  induction nM using Nat.strongRecOn with
  | ind nM ih =>
    intro M k f hI_M hH_M hS_M hF_M h_k h_f hy0 hy1 hm
    have hAS := hy0
    have hl := hy0.1
    refine jr.iload_n rfl rfl ?_
    refine jr.bipush rfl (jbp _ (nlt rfl)) ?_
    refine jr.icmp_ge rfl rfl (by first | (refine rgb (by assumption) ?_; exact rfl) | omega) (rgl rfl) (fun h118 => ?_) (fun h118 => ?_)
    · refine jr.aload_n rfl rfl ?_
      refine jr.getf (i := 129) (v := .ref 685) rfl rfl (nlt rfl) rfl (nlt rfl) rfl rfl rfl rfl ?_
      refine jr.iload_n rfl rfl ?_
      refine jr.bipush rfl (jbp _ (nlt rfl)) ?_
      refine jr.iadd rfl ?_
      refine jr.aload_n rfl rfl ?_
      obtain ⟨v1, e1⟩ : ∃ z, M 598 112 = z := ⟨_, rfl⟩
      have b1 : 0 ≤ v1 ∧ v1 ≤ 2147483647 := by rw [← e1]; exact hI_M 598 112 (Nat.le_of_ble_eq_true rfl)
      refine jr.getf (i := 112) (x := v1) (v := .int (Int32.ofInt (v1))) rfl rfl (nlt rfl) rfl (nlt rfl) rfl rfl e1 rfl ?_
      refine jr.i2l rfl (by omega) ?_
      refine jr.last (i := ((102 * f) + 100)) (x := v1) rfl (nlt rfl) rfl (Nat.le_of_ble_eq_true rfl) (by omega) (by omega) ?_
      refine jr.aload_n rfl rfl ?_
      refine jr.getf (i := 129) (v := .ref 685) rfl rfl (nlt rfl) rfl (nlt rfl) rfl rfl rfl rfl ?_
      refine jr.iload_n rfl rfl ?_
      refine jr.bipush rfl (jbp _ (nlt rfl)) ?_
      refine jr.iadd rfl ?_
      refine jr.aload_n rfl rfl ?_
      refine jr.aload_n rfl rfl ?_
      obtain ⟨v2, e2⟩ : ∃ z, M 598 133 = z := ⟨_, rfl⟩
      have b2 : 0 ≤ v2 ∧ v2 ≤ 23 := by rw [← e2]; exact hI_M 598 133 (Nat.le_of_ble_eq_true rfl)
      refine jr.getf (i := 133) (x := v2) (v := .int (Int32.ofInt (v2))) rfl rfl (nlt rfl) rfl (nlt rfl) rfl rfl ((ju_c _ _ (by decide)).trans e2) rfl ?_
      refine jr_v rfl rfl (Or.inl rfl) rfl rfl (nlt rfl) rfl ⟨rfl, Nat.le_of_ble_eq_true rfl, Nat.le_of_ble_eq_true rfl⟩ rfl (jc.deep (c_isThere (RI.u hI_M (a := 685) (i := ((102 * f) + 100)) (by rw [xri_row rfl rfl]; show (-9223372036854775808 : Int) ≤ _ ∧ _ ≤ (9223372036854775807 : Int); omega)) (by omega) (fun l171 u171 t171 => ?_) (fun n171 => ?_)) (Nat.le_of_ble_eq_true rfl))
      · refine jr.if_eq rfl rfl (by first | exact rgl rfl | omega) (fun h => absurd h (by decide)) (fun _ => ?_)
        refine jr.aload_n rfl rfl ?_
        refine jr.getf (i := 5) (v := .ref 602) rfl rfl (nlt rfl) rfl (nlt rfl) rfl rfl rfl rfl ?_
        refine jr.aload_n rfl rfl ?_
        refine jr.getf (i := 133) (x := v2) (v := .int (Int32.ofInt (v2))) rfl rfl (nlt rfl) rfl (nlt rfl) rfl rfl ((ju_c _ _ (by decide)).trans e2) rfl ?_
        obtain ⟨v3, e3⟩ : ∃ z, M 602 v2 = z := ⟨_, rfl⟩
        have b3 : (-9223372036854775808) ≤ v3 ∧ v3 ≤ 9223372036854775807 := by rw [← e3]; exact (by have q := hI_M 602 v2 (Nat.le_of_ble_eq_true rfl); rw [xri_row rfl rfl] at q; exact q)
        refine jr.lald (i := v2) (x := v3) rfl (nlt rfl) rfl (Nat.le_of_ble_eq_true rfl) (by omega) (by omega) ((ju_c _ _ (by decide)).trans e3) ?_
        refine jr.goto rfl rfl ?_
        refine jr.last (i := ((102 * f) + 101)) (x := v3) rfl (nlt rfl) rfl (Nat.le_of_ble_eq_true rfl) (by omega) (by omega) ?_
        exact jr.vreturn rfl rfl (q _ (RI.u (RI.u hI_M (a := 685) (i := ((102 * f) + 100)) (by rw [xri_row rfl rfl]; show (-9223372036854775808 : Int) ≤ _ ∧ _ ≤ (9223372036854775807 : Int); omega)) (a := 685) (i := ((102 * f) + 101)) (by rw [xri_row rfl rfl]; show (-9223372036854775808 : Int) ≤ _ ∧ _ ≤ (9223372036854775807 : Int); omega)) (RH.o (RH.o hH_M (by decide) (by decide) (by decide)) (by decide) (by decide) (by decide)) (RF.o (RF.o hS_M (by decide) (by decide)) (by decide) (by decide))  (AS.w (AS.w hAS (fun g j g0 j0 j1 e => ⟨fun q => by omega, fun q => by omega, fun q => by omega⟩)) (fun g j g0 j0 j1 e => ⟨fun q => by omega, fun q => by omega, fun q => by omega⟩)) (fun a i f685 => ((ju_c _ _ f685).trans ((ju_c _ _ f685).trans (hF_M a i f685)))))
      · refine jr.if_eq rfl rfl (by first | exact rgl rfl | omega) (fun _ => ?_) (fun h => absurd (by decide) h)
        refine jr.lconst (x := 0) rfl (by decide) ?_
        refine jr.last (i := ((102 * f) + 101)) (x := 0) rfl (nlt rfl) rfl (Nat.le_of_ble_eq_true rfl) (by omega) (by omega) ?_
        exact jr.vreturn rfl rfl (q _ (RI.u (RI.u hI_M (a := 685) (i := ((102 * f) + 100)) (by rw [xri_row rfl rfl]; show (-9223372036854775808 : Int) ≤ _ ∧ _ ≤ (9223372036854775807 : Int); omega)) (a := 685) (i := ((102 * f) + 101)) (by rw [xri_row rfl rfl]; show (-9223372036854775808 : Int) ≤ _ ∧ _ ≤ (9223372036854775807 : Int); omega)) (RH.o (RH.o hH_M (by decide) (by decide) (by decide)) (by decide) (by decide) (by decide)) (RF.o (RF.o hS_M (by decide) (by decide)) (by decide) (by decide))  (AS.w (AS.w hAS (fun g j g0 j0 j1 e => ⟨fun q => by omega, fun q => by omega, fun q => by omega⟩)) (fun g j g0 j0 j1 e => ⟨fun q => by omega, fun q => by omega, fun q => by omega⟩)) (fun a i f685 => ((ju_c _ _ f685).trans ((ju_c _ _ f685).trans (hF_M a i f685)))))
    · refine jr.aload_n rfl rfl ?_
      refine jr.getf (i := 129) (v := .ref 685) rfl rfl (nlt rfl) rfl (nlt rfl) rfl rfl rfl rfl ?_
      refine jr.iload_n rfl rfl ?_
      refine jr.bipush rfl (jbp _ (nlt rfl)) ?_
      refine jr.iadd rfl ?_
      refine jr.iload_n rfl rfl ?_
      refine jr.iadd rfl ?_
      refine jr.aload_n rfl rfl ?_
      refine jr.getf (i := 113) (v := .ref 670) rfl rfl (nlt rfl) rfl (nlt rfl) rfl rfl rfl rfl ?_
      refine jr.iload_n rfl rfl ?_
      obtain ⟨v4, e4⟩ : ∃ z, M 670 k = z := ⟨_, rfl⟩
      have b4 : (-9223372036854775808) ≤ v4 ∧ v4 ≤ 9223372036854775807 := by rw [← e4]; exact (by have q := hI_M 670 k (Nat.le_of_ble_eq_true rfl); rw [xri_row rfl rfl] at q; exact q)
      refine jr.lald (i := k) (x := v4) rfl (nlt rfl) rfl (Nat.le_of_ble_eq_true rfl) (by omega) (by omega) e4 ?_
      refine jr.last (i := (((102 * f) + 80) + k)) (x := v4) rfl (nlt rfl) rfl (Nat.le_of_ble_eq_true rfl) (by omega) (by omega) ?_
      refine jr.iinc (ls' := [_, _, _, _]) rfl rfl (nlt rfl) rfl ?_
      refine jr.goto rfl rfl ?_
      refine jr.pick (ls := [_, _, _, _]) [0, 1, 2, 3] rfl rfl ?_
      exact ih (nM - 1) (by omega) (ju M 685 (((102 * f) + 80) + k) v4) (k + 1) f (RI.u hI_M (a := 685) (i := (((102 * f) + 80) + k)) (by rw [xri_row rfl rfl]; show (-9223372036854775808 : Int) ≤ _ ∧ _ ≤ (9223372036854775807 : Int); omega)) (RH.o hH_M (by decide) (by decide) (by decide)) (RF.o hS_M (by decide) (by decide))  (fun a i f685 => ((ju_c _ _ f685).trans (hF_M a i f685))) (by omega) (by omega) (AS.w hAS (fun g j g0 j0 j1 e => ⟨fun q => by omega, fun q => by omega, fun q => by omega⟩)) (by omega) (by omega)
theorem r_layAside_L84 {A : Nat → Option (Nat × (Nat → Int32))} {Q : Option Value → jm → Prop} {L : Int} {M0 : jm} (q : ∀ (M' : jm), RI M' → RH M' → RF M' → AS M' L → (∀ (a : Nat) (i : Int), a ≠ 685 → M' a i = M0 a i) → Q none M') : ∀ (nM : Nat) (M : jm) (k : Int) (f : Int), RI M → RH M → RF M → (∀ (a : Nat) (i : Int), a ≠ 685 → M a i = M0 a i) → 0 ≤ k ∧ k ≤ 64 → 0 ≤ f ∧ f ≤ 8 → AS M L → L ≤ 2000000000 → 64 - k ≤ nM → jr A 3 xm_373 84 [(3, .int (Int32.ofInt (k))), (1, .int (Int32.ofInt (f))), (2, .int (Int32.ofInt (102 * f))), (0, .ref (598))] [] M Q := by
  intro nM
  induction nM using Nat.strongRecOn with
  | ind nM ih =>
    intro M k f hI_M hH_M hS_M hF_M h_k h_f hy0 hy1 hm
    have hAS := hy0
    have hl := hy0.1
    refine jr.iload_n rfl rfl ?_
    refine jr.bipush rfl (jbp _ (nlt rfl)) ?_
    refine jr.icmp_ge rfl rfl (by first | (refine rgb (by assumption) ?_; exact rfl) | omega) (rgl rfl) (fun h87 => ?_) (fun h87 => ?_)
    · refine jr.iconst rfl ?_
      refine jr.istore_n (ls' := [_, _, _, _]) rfl (nlt rfl) rfl ?_
      refine jr.pick (ls := [_, _, _, _]) [0, 1, 2, 3] rfl rfl ?_
      exact r_layAside_L115 q 20 M 0 f hI_M hH_M hS_M  (fun a i f685 => (hF_M a i f685)) (by omega) (by omega) hAS (by omega) (by omega)
    · refine jr.aload_n rfl rfl ?_
      refine jr.getf (i := 129) (v := .ref 685) rfl rfl (nlt rfl) rfl (nlt rfl) rfl rfl rfl rfl ?_
      refine jr.iload_n rfl rfl ?_
      refine jr.bipush rfl (jbp _ (nlt rfl)) ?_
      refine jr.iadd rfl ?_
      refine jr.iload_n rfl rfl ?_
      refine jr.iadd rfl ?_
      refine jr.aload_n rfl rfl ?_
      refine jr.getf (i := 116) (v := .ref 673) rfl rfl (nlt rfl) rfl (nlt rfl) rfl rfl rfl rfl ?_
      refine jr.iload_n rfl rfl ?_
      obtain ⟨v1, e1⟩ : ∃ z, M 673 k = z := ⟨_, rfl⟩
      have b1 : (-9223372036854775808) ≤ v1 ∧ v1 ≤ 9223372036854775807 := by rw [← e1]; exact (by have q := hI_M 673 k (Nat.le_of_ble_eq_true rfl); rw [xri_row rfl rfl] at q; exact q)
      refine jr.lald (i := k) (x := v1) rfl (nlt rfl) rfl (Nat.le_of_ble_eq_true rfl) (by omega) (by omega) e1 ?_
      refine jr.last (i := (((102 * f) + 16) + k)) (x := v1) rfl (nlt rfl) rfl (Nat.le_of_ble_eq_true rfl) (by omega) (by omega) ?_
      refine jr.iinc (ls' := [_, _, _, _]) rfl rfl (nlt rfl) rfl ?_
      refine jr.goto rfl rfl ?_
      refine jr.pick (ls := [_, _, _, _]) [0, 1, 2, 3] rfl rfl ?_
      exact ih (nM - 1) (by omega) (ju M 685 (((102 * f) + 16) + k) v1) (k + 1) f (RI.u hI_M (a := 685) (i := (((102 * f) + 16) + k)) (by rw [xri_row rfl rfl]; show (-9223372036854775808 : Int) ≤ _ ∧ _ ≤ (9223372036854775807 : Int); omega)) (RH.o hH_M (by decide) (by decide) (by decide)) (RF.o hS_M (by decide) (by decide))  (fun a i f685 => ((ju_c _ _ f685).trans (hF_M a i f685))) (by omega) (by omega) (AS.w hAS (fun g j g0 j0 j1 e => ⟨fun q => by omega, fun q => by omega, fun q => by omega⟩)) (by omega) (by omega)
theorem r_layAside_L35 {A : Nat → Option (Nat × (Nat → Int32))} {Q : Option Value → jm → Prop} {L : Int} {M0 : jm} (q : ∀ (M' : jm), RI M' → RH M' → RF M' → AS M' L → (∀ (a : Nat) (i : Int), a ≠ 685 → M' a i = M0 a i) → Q none M') : ∀ (nM : Nat) (M : jm) (k : Int) (f : Int), RI M → RH M → RF M → (∀ (a : Nat) (i : Int), a ≠ 685 → M a i = M0 a i) → 0 ≤ k ∧ k ≤ 4 → 0 ≤ f ∧ f ≤ 8 → AS M L → L ≤ 2000000000 → 4 - k ≤ nM → jr A 3 xm_373 35 [(3, .int (Int32.ofInt (k))), (1, .int (Int32.ofInt (f))), (2, .int (Int32.ofInt (102 * f))), (0, .ref (598))] [] M Q := by
  intro nM
  induction nM using Nat.strongRecOn with
  | ind nM ih =>
    intro M k f hI_M hH_M hS_M hF_M h_k h_f hy0 hy1 hm
    have hAS := hy0
    have hl := hy0.1
    refine jr.iload_n rfl rfl ?_
    refine jr.iconst rfl ?_
    refine jr.icmp_ge rfl rfl (by first | (refine rgb (by assumption) ?_; exact rfl) | omega) (rgl rfl) (fun h37 => ?_) (fun h37 => ?_)
    · refine jr.iconst rfl ?_
      refine jr.istore_n (ls' := [_, _, _, _]) rfl (nlt rfl) rfl ?_
      refine jr.pick (ls := [_, _, _, _]) [0, 1, 2, 3] rfl rfl ?_
      exact r_layAside_L84 q 64 M 0 f hI_M hH_M hS_M  (fun a i f685 => (hF_M a i f685)) (by omega) (by omega) hAS (by omega) (by omega)
    · refine jr.aload_n rfl rfl ?_
      refine jr.getf (i := 129) (v := .ref 685) rfl rfl (nlt rfl) rfl (nlt rfl) rfl rfl rfl rfl ?_
      refine jr.iload_n rfl rfl ?_
      refine jr.bipush rfl (jbp _ (nlt rfl)) ?_
      refine jr.iadd rfl ?_
      refine jr.iload_n rfl rfl ?_
      refine jr.iadd rfl ?_
      refine jr.aload_n rfl rfl ?_
      refine jr.getf (i := 36) (v := .ref 624) rfl rfl (nlt rfl) rfl (nlt rfl) rfl rfl rfl rfl ?_
      refine jr.iload_n rfl rfl ?_
      obtain ⟨v1, e1⟩ : ∃ z, M 624 k = z := ⟨_, rfl⟩
      have b1 : 0 ≤ v1 ∧ v1 ≤ 1000 := by rw [← e1]; exact (by have q := hI_M 624 k (Nat.le_of_ble_eq_true rfl); rw [xri_row rfl rfl] at q; exact q)
      refine jr.iald (i := k) (x := v1) rfl (nlt rfl) rfl (Nat.le_of_ble_eq_true rfl) (by omega) (by omega) e1 ?_
      refine jr.i2l rfl (by omega) ?_
      refine jr.last (i := (((102 * f) + 8) + k)) (x := v1) rfl (nlt rfl) rfl (Nat.le_of_ble_eq_true rfl) (by omega) (by omega) ?_
      refine jr.aload_n rfl rfl ?_
      refine jr.getf (i := 129) (v := .ref 685) rfl rfl (nlt rfl) rfl (nlt rfl) rfl rfl rfl rfl ?_
      refine jr.iload_n rfl rfl ?_
      refine jr.bipush rfl (jbp _ (nlt rfl)) ?_
      refine jr.iadd rfl ?_
      refine jr.iload_n rfl rfl ?_
      refine jr.iadd rfl ?_
      refine jr.aload_n rfl rfl ?_
      refine jr.getf (i := 115) (v := .ref 672) rfl rfl (nlt rfl) rfl (nlt rfl) rfl rfl rfl rfl ?_
      refine jr.iload_n rfl rfl ?_
      obtain ⟨v2, e2⟩ : ∃ z, M 672 k = z := ⟨_, rfl⟩
      have b2 : 0 ≤ v2 ∧ v2 ≤ 16 := by rw [← e2]; exact (by have q := hI_M 672 k (Nat.le_of_ble_eq_true rfl); rw [xri_row rfl rfl] at q; exact q)
      refine jr.iald (i := k) (x := v2) rfl (nlt rfl) rfl (Nat.le_of_ble_eq_true rfl) (by omega) (by omega) ((ju_c _ _ (by decide)).trans e2) ?_
      refine jr.i2l rfl (by omega) ?_
      refine jr.last (i := (((102 * f) + 12) + k)) (x := v2) rfl (nlt rfl) rfl (Nat.le_of_ble_eq_true rfl) (by omega) (by omega) ?_
      refine jr.iinc (ls' := [_, _, _, _]) rfl rfl (nlt rfl) rfl ?_
      refine jr.goto rfl rfl ?_
      refine jr.pick (ls := [_, _, _, _]) [0, 1, 2, 3] rfl rfl ?_
      exact ih (nM - 1) (by omega) (ju (ju M 685 (((102 * f) + 8) + k) v1) 685 (((102 * f) + 12) + k) v2) (k + 1) f (RI.u (RI.u hI_M (a := 685) (i := (((102 * f) + 8) + k)) (by rw [xri_row rfl rfl]; show (-9223372036854775808 : Int) ≤ _ ∧ _ ≤ (9223372036854775807 : Int); omega)) (a := 685) (i := (((102 * f) + 12) + k)) (by rw [xri_row rfl rfl]; show (-9223372036854775808 : Int) ≤ _ ∧ _ ≤ (9223372036854775807 : Int); omega)) (RH.o (RH.o hH_M (by decide) (by decide) (by decide)) (by decide) (by decide) (by decide)) (RF.o (RF.o hS_M (by decide) (by decide)) (by decide) (by decide))  (fun a i f685 => ((ju_c _ _ f685).trans ((ju_c _ _ f685).trans (hF_M a i f685)))) (by omega) (by omega) (AS.w (AS.w hAS (fun g j g0 j0 j1 e => ⟨fun q => by omega, fun q => by omega, fun q => by omega⟩)) (fun g j g0 j0 j1 e => ⟨fun q => by omega, fun q => by omega, fun q => by omega⟩)) (by omega) (by omega)
theorem r_layAside_L7 {A : Nat → Option (Nat × (Nat → Int32))} {Q : Option Value → jm → Prop} {L : Int} {M0 : jm} (q : ∀ (M' : jm), RI M' → RH M' → RF M' → AS M' L → (∀ (a : Nat) (i : Int), a ≠ 685 → M' a i = M0 a i) → Q none M') : ∀ (nM : Nat) (M : jm) (k : Int) (f : Int), RI M → RH M → RF M → (∀ (a : Nat) (i : Int), a ≠ 685 → M a i = M0 a i) → 0 ≤ k ∧ k ≤ 8 → 0 ≤ f ∧ f ≤ 8 → AS M L → L ≤ 2000000000 → 8 - k ≤ nM → jr A 3 xm_373 7 [(3, .int (Int32.ofInt (k))), (1, .int (Int32.ofInt (f))), (2, .int (Int32.ofInt (102 * f))), (0, .ref (598))] [] M Q := by
  intro nM
  induction nM using Nat.strongRecOn with
  | ind nM ih =>
    intro M k f hI_M hH_M hS_M hF_M h_k h_f hy0 hy1 hm
    have hAS := hy0
    have hl := hy0.1
    refine jr.iload_n rfl rfl ?_
    refine jr.bipush rfl (jbp _ (nlt rfl)) ?_
    refine jr.icmp_ge rfl rfl (by first | (refine rgb (by assumption) ?_; exact rfl) | omega) (rgl rfl) (fun h10 => ?_) (fun h10 => ?_)
    · refine jr.iconst rfl ?_
      refine jr.istore_n (ls' := [_, _, _, _]) rfl (nlt rfl) rfl ?_
      refine jr.pick (ls := [_, _, _, _]) [0, 1, 2, 3] rfl rfl ?_
      exact r_layAside_L35 q 4 M 0 f hI_M hH_M hS_M  (fun a i f685 => (hF_M a i f685)) (by omega) (by omega) hAS (by omega) (by omega)
    · refine jr.aload_n rfl rfl ?_
      refine jr.getf (i := 129) (v := .ref 685) rfl rfl (nlt rfl) rfl (nlt rfl) rfl rfl rfl rfl ?_
      refine jr.iload_n rfl rfl ?_
      refine jr.iload_n rfl rfl ?_
      refine jr.iadd rfl ?_
      refine jr.aload_n rfl rfl ?_
      refine jr.getf (i := 114) (v := .ref 671) rfl rfl (nlt rfl) rfl (nlt rfl) rfl rfl rfl rfl ?_
      refine jr.iload_n rfl rfl ?_
      obtain ⟨v1, e1⟩ : ∃ z, M 671 k = z := ⟨_, rfl⟩
      have b1 : (-9223372036854775808) ≤ v1 ∧ v1 ≤ 9223372036854775807 := by rw [← e1]; exact (by have q := hI_M 671 k (Nat.le_of_ble_eq_true rfl); rw [xri_row rfl rfl] at q; exact q)
      refine jr.lald (i := k) (x := v1) rfl (nlt rfl) rfl (Nat.le_of_ble_eq_true rfl) (by omega) (by omega) e1 ?_
      refine jr.last (i := ((102 * f) + k)) (x := v1) rfl (nlt rfl) rfl (Nat.le_of_ble_eq_true rfl) (by omega) (by omega) ?_
      refine jr.iinc (ls' := [_, _, _, _]) rfl rfl (nlt rfl) rfl ?_
      refine jr.goto rfl rfl ?_
      refine jr.pick (ls := [_, _, _, _]) [0, 1, 2, 3] rfl rfl ?_
      exact ih (nM - 1) (by omega) (ju M 685 ((102 * f) + k) v1) (k + 1) f (RI.u hI_M (a := 685) (i := ((102 * f) + k)) (by rw [xri_row rfl rfl]; show (-9223372036854775808 : Int) ≤ _ ∧ _ ≤ (9223372036854775807 : Int); omega)) (RH.o hH_M (by decide) (by decide) (by decide)) (RF.o hS_M (by decide) (by decide))  (fun a i f685 => ((ju_c _ _ f685).trans (hF_M a i f685))) (by omega) (by omega) (AS.w hAS (fun g j g0 j0 j1 e => ⟨fun q => by omega, fun q => by omega, fun q => by omega⟩)) (by omega) (by omega)
theorem r_layAside {A : Nat → Option (Nat × (Nat → Int32))} {Q : Option Value → jm → Prop} {L : Int} {M : jm} (hI_M : RI M) (hH_M : RH M) (hS_M : RF M) {f : Int} (h_f : 0 ≤ f ∧ f ≤ 8) (p0 : AS M L) (p1 : L ≤ 2000000000) (q : ∀ (M' : jm), RI M' → RH M' → RF M' → AS M' L → (∀ (a : Nat) (i : Int), a ≠ 685 → M' a i = M a i) → Q none M') : jc A 4 373 [.ref (598), .int (Int32.ofInt (f))] M Q := by
  have hAS := p0
  refine jc_of (m := xm_373) rfl (Nat.le_of_ble_eq_true rfl) rfl ?_
  refine jr.bipush rfl (jbp _ (nlt rfl)) ?_
  refine jr.iload_n rfl rfl ?_
  refine jr.imul rfl ?_
  refine jr.istore_n (ls' := [_, _, _]) rfl (nlt rfl) rfl ?_
  refine jr.iconst rfl ?_
  refine jr.istore_n (ls' := [_, _, _, _]) rfl (nlt rfl) rfl ?_
  refine jr.pick (ls := [_, _, _, _]) [0, 3, 1, 2] rfl rfl ?_
  exact r_layAside_L7 q 8 M 0 f hI_M hH_M hS_M  (fun a i f685 => rfl) (by omega) (by omega) hAS (by omega) (by omega)
theorem r_giveBack_L115 {A : Nat → Option (Nat × (Nat → Int32))} {Q : Option Value → jm → Prop} {L : Int} {M0 : jm} (q : ∀ (M' : jm), RI M' → RH M' → RF M' → AS M' L → (∀ (a : Nat) (i : Int), a ≠ 598 → a ≠ 602 → a ≠ 624 → a ≠ 670 → a ≠ 671 → a ≠ 672 → a ≠ 673 → M' a i = M0 a i) → (∀ (i : Int), i ≠ 112 → M' 598 i = M0 598 i) → Q none M') : ∀ (nM : Nat) (M : jm) (k : Int) (f : Int), RI M → RH M → RF M → (∀ (a : Nat) (i : Int), a ≠ 598 → a ≠ 602 → a ≠ 624 → a ≠ 670 → a ≠ 671 → a ≠ 672 → a ≠ 673 → M a i = M0 a i) → (∀ (i : Int), i ≠ 112 → M 598 i = M0 598 i) → 0 ≤ k ∧ k ≤ 20 → 0 ≤ f ∧ f ≤ 8 → AS M L → L ≤ 2000000000 → 20 - k ≤ nM → jr A 3 xm_374 115 [(3, .int (Int32.ofInt (k))), (1, .int (Int32.ofInt (f))), (2, .int (Int32.ofInt (102 * f))), (0, .ref (598))] [] M Q := by
  intro nM
  induction nM using Nat.strongRecOn with
  | ind nM ih =>
    intro M k f hI_M hH_M hS_M hF_M hG_M h_k h_f hy0 hy1 hm
    have hAS := hy0
    have hl := hy0.1
    obtain ⟨vl, hvl⟩ : ∃ z, M 685 ((102 * f) + 100) = z := ⟨_, rfl⟩
    have bl := AS.at hy0 (f := f) (j := 100) (i := (102 * f) + 100) (by omega) (by omega) (by omega)
    rw [hvl] at bl
    refine jr.iload_n rfl rfl ?_
    refine jr.bipush rfl (jbp _ (nlt rfl)) ?_
    refine jr.icmp_ge rfl rfl (by first | (refine rgb (by assumption) ?_; exact rfl) | omega) (rgl rfl) (fun h118 => ?_) (fun h118 => ?_)
    · refine jr.aload_n rfl rfl ?_
      refine jr.aload_n rfl rfl ?_
      refine jr.getf (i := 129) (v := .ref 685) rfl rfl (nlt rfl) rfl (nlt rfl) rfl rfl rfl rfl ?_
      refine jr.iload_n rfl rfl ?_
      refine jr.bipush rfl (jbp _ (nlt rfl)) ?_
      refine jr.iadd rfl ?_
      refine jr.lald (i := ((102 * f) + 100)) (x := vl) rfl (nlt rfl) rfl (Nat.le_of_ble_eq_true rfl) (by omega) (by omega) hvl ?_
      refine jr.l2i rfl ?_
      refine jr.putf (i := 112) (x := vl) rfl rfl (nlt rfl) rfl (nlt rfl) rfl rfl rfl rfl rfl ?_
      refine jr.aload_n rfl rfl ?_
      refine jr.aload_n rfl rfl ?_
      obtain ⟨v1, e1⟩ : ∃ z, M 598 133 = z := ⟨_, rfl⟩
      have b1 : 0 ≤ v1 ∧ v1 ≤ 23 := by rw [← e1]; exact hI_M 598 133 (Nat.le_of_ble_eq_true rfl)
      refine jr.getf (i := 133) (x := v1) (v := .int (Int32.ofInt (v1))) rfl rfl (nlt rfl) rfl (nlt rfl) rfl rfl ((ju_i _ _ (zne (by decide))).trans e1) rfl ?_
      refine jr_v rfl rfl (Or.inl rfl) rfl rfl (nlt rfl) rfl ⟨rfl, Nat.le_of_ble_eq_true rfl, Nat.le_of_ble_eq_true rfl⟩ rfl (jc.deep (c_isThere (RI.u hI_M (a := 598) (i := 112) (show (0 : Int) ≤ _ ∧ _ ≤ (2147483647 : Int) from by omega)) (by omega) (fun l163 u163 t163 => ?_) (fun n163 => ?_)) (Nat.le_of_ble_eq_true rfl))
      · refine jr.if_eq rfl rfl (by first | exact rgl rfl | omega) (fun h => absurd h (by decide)) (fun _ => ?_)
        refine jr.aload_n rfl rfl ?_
        refine jr.getf (i := 5) (v := .ref 602) rfl rfl (nlt rfl) rfl (nlt rfl) rfl rfl rfl rfl ?_
        refine jr.aload_n rfl rfl ?_
        refine jr.getf (i := 133) (x := v1) (v := .int (Int32.ofInt (v1))) rfl rfl (nlt rfl) rfl (nlt rfl) rfl rfl ((ju_i _ _ (zne (by decide))).trans e1) rfl ?_
        refine jr.aload_n rfl rfl ?_
        refine jr.getf (i := 129) (v := .ref 685) rfl rfl (nlt rfl) rfl (nlt rfl) rfl rfl rfl rfl ?_
        refine jr.iload_n rfl rfl ?_
        refine jr.bipush rfl (jbp _ (nlt rfl)) ?_
        refine jr.iadd rfl ?_
        obtain ⟨v2, e2⟩ : ∃ z, M 685 ((102 * f) + 101) = z := ⟨_, rfl⟩
        have b2 : (-9223372036854775808) ≤ v2 ∧ v2 ≤ 9223372036854775807 := by rw [← e2]; exact (by have q := hI_M 685 ((102 * f) + 101) (by decide); rw [xri_row rfl rfl] at q; exact q)
        refine jr.lald (i := ((102 * f) + 101)) (x := v2) rfl (nlt rfl) rfl (Nat.le_of_ble_eq_true rfl) (by omega) (by omega) ((ju_c _ _ (by decide)).trans e2) ?_
        refine jr.last (i := v1) (x := v2) rfl (nlt rfl) rfl (Nat.le_of_ble_eq_true rfl) (by omega) (by omega) ?_
        exact jr.vreturn rfl rfl (q _ (RI.u (RI.u hI_M (a := 598) (i := 112) (show (0 : Int) ≤ _ ∧ _ ≤ (2147483647 : Int) from by omega)) (a := 602) (i := v1) (by rw [xri_row rfl rfl]; show (-9223372036854775808 : Int) ≤ _ ∧ _ ≤ (9223372036854775807 : Int); omega)) (RH.o (RH.o hH_M (by decide) (by decide) (by decide)) (by decide) (by decide) (by decide)) (RF.o (RF.o hS_M (by decide) (by decide)) (by decide) (by decide))  (AS.o (AS.l hAS (by omega)) (by decide) (Or.inl (by decide))) (fun a i f598 f602 f624 f670 f671 f672 f673 => ((ju_c _ _ f602).trans ((ju_c _ _ f598).trans (hF_M a i f598 f602 f624 f670 f671 f672 f673)))) (fun i g112 => ((ju_c _ _ (by decide)).trans ((ju_i _ _ g112).trans (hG_M i g112)))))
      · refine jr.if_eq rfl rfl (by first | exact rgl rfl | omega) (fun _ => ?_) (fun h => absurd (by decide) h)
        exact jr.vreturn rfl rfl (q _ (RI.u hI_M (a := 598) (i := 112) (show (0 : Int) ≤ _ ∧ _ ≤ (2147483647 : Int) from by omega)) (RH.o hH_M (by decide) (by decide) (by decide)) (RF.o hS_M (by decide) (by decide))  (AS.l hAS (by omega)) (fun a i f598 f602 f624 f670 f671 f672 f673 => ((ju_c _ _ f598).trans (hF_M a i f598 f602 f624 f670 f671 f672 f673))) (fun i g112 => ((ju_i _ _ g112).trans (hG_M i g112))))
    · refine jr.aload_n rfl rfl ?_
      refine jr.getf (i := 113) (v := .ref 670) rfl rfl (nlt rfl) rfl (nlt rfl) rfl rfl rfl rfl ?_
      refine jr.iload_n rfl rfl ?_
      refine jr.aload_n rfl rfl ?_
      refine jr.getf (i := 129) (v := .ref 685) rfl rfl (nlt rfl) rfl (nlt rfl) rfl rfl rfl rfl ?_
      refine jr.iload_n rfl rfl ?_
      refine jr.bipush rfl (jbp _ (nlt rfl)) ?_
      refine jr.iadd rfl ?_
      refine jr.iload_n rfl rfl ?_
      refine jr.iadd rfl ?_
      obtain ⟨v3, e3⟩ : ∃ z, M 685 (((102 * f) + 80) + k) = z := ⟨_, rfl⟩
      have b3 : (-9223372036854775808) ≤ v3 ∧ v3 ≤ 9223372036854775807 := by rw [← e3]; exact (by have q := hI_M 685 (((102 * f) + 80) + k) (by decide); rw [xri_row rfl rfl] at q; exact q)
      refine jr.lald (i := (((102 * f) + 80) + k)) (x := v3) rfl (nlt rfl) rfl (Nat.le_of_ble_eq_true rfl) (by omega) (by omega) e3 ?_
      refine jr.last (i := k) (x := v3) rfl (nlt rfl) rfl (Nat.le_of_ble_eq_true rfl) (by omega) (by omega) ?_
      refine jr.iinc (ls' := [_, _, _, _]) rfl rfl (nlt rfl) rfl ?_
      refine jr.goto rfl rfl ?_
      refine jr.pick (ls := [_, _, _, _]) [0, 1, 2, 3] rfl rfl ?_
      exact ih (nM - 1) (by omega) (ju M 670 k v3) (k + 1) f (RI.u hI_M (a := 670) (i := k) (by rw [xri_row rfl rfl]; show (-9223372036854775808 : Int) ≤ _ ∧ _ ≤ (9223372036854775807 : Int); omega)) (RH.o hH_M (by decide) (by decide) (by decide)) (RF.o hS_M (by decide) (by decide))  (fun a i f598 f602 f624 f670 f671 f672 f673 => ((ju_c _ _ f670).trans (hF_M a i f598 f602 f624 f670 f671 f672 f673))) (fun i g112 => ((ju_c _ _ (by decide)).trans (hG_M i g112))) (by omega) (by omega) (AS.o hAS (by decide) (Or.inl (by decide))) (by omega) (by omega)
theorem r_giveBack_L84 {A : Nat → Option (Nat × (Nat → Int32))} {Q : Option Value → jm → Prop} {L : Int} {M0 : jm} (q : ∀ (M' : jm), RI M' → RH M' → RF M' → AS M' L → (∀ (a : Nat) (i : Int), a ≠ 598 → a ≠ 602 → a ≠ 624 → a ≠ 670 → a ≠ 671 → a ≠ 672 → a ≠ 673 → M' a i = M0 a i) → (∀ (i : Int), i ≠ 112 → M' 598 i = M0 598 i) → Q none M') : ∀ (nM : Nat) (M : jm) (k : Int) (f : Int), RI M → RH M → RF M → (∀ (a : Nat) (i : Int), a ≠ 598 → a ≠ 602 → a ≠ 624 → a ≠ 670 → a ≠ 671 → a ≠ 672 → a ≠ 673 → M a i = M0 a i) → (∀ (i : Int), i ≠ 112 → M 598 i = M0 598 i) → 0 ≤ k ∧ k ≤ 64 → 0 ≤ f ∧ f ≤ 8 → AS M L → L ≤ 2000000000 → 64 - k ≤ nM → jr A 3 xm_374 84 [(3, .int (Int32.ofInt (k))), (1, .int (Int32.ofInt (f))), (2, .int (Int32.ofInt (102 * f))), (0, .ref (598))] [] M Q := by
  intro nM
  induction nM using Nat.strongRecOn with
  | ind nM ih =>
    intro M k f hI_M hH_M hS_M hF_M hG_M h_k h_f hy0 hy1 hm
    have hAS := hy0
    have hl := hy0.1
    refine jr.iload_n rfl rfl ?_
    refine jr.bipush rfl (jbp _ (nlt rfl)) ?_
    refine jr.icmp_ge rfl rfl (by first | (refine rgb (by assumption) ?_; exact rfl) | omega) (rgl rfl) (fun h87 => ?_) (fun h87 => ?_)
    · refine jr.iconst rfl ?_
      refine jr.istore_n (ls' := [_, _, _, _]) rfl (nlt rfl) rfl ?_
      refine jr.pick (ls := [_, _, _, _]) [0, 1, 2, 3] rfl rfl ?_
      exact r_giveBack_L115 q 20 M 0 f hI_M hH_M hS_M  (fun a i f598 f602 f624 f670 f671 f672 f673 => (hF_M a i f598 f602 f624 f670 f671 f672 f673)) (fun i g112 => (hG_M i g112)) (by omega) (by omega) hAS (by omega) (by omega)
    · refine jr.aload_n rfl rfl ?_
      refine jr.getf (i := 116) (v := .ref 673) rfl rfl (nlt rfl) rfl (nlt rfl) rfl rfl rfl rfl ?_
      refine jr.iload_n rfl rfl ?_
      refine jr.aload_n rfl rfl ?_
      refine jr.getf (i := 129) (v := .ref 685) rfl rfl (nlt rfl) rfl (nlt rfl) rfl rfl rfl rfl ?_
      refine jr.iload_n rfl rfl ?_
      refine jr.bipush rfl (jbp _ (nlt rfl)) ?_
      refine jr.iadd rfl ?_
      refine jr.iload_n rfl rfl ?_
      refine jr.iadd rfl ?_
      obtain ⟨v1, e1⟩ : ∃ z, M 685 (((102 * f) + 16) + k) = z := ⟨_, rfl⟩
      have b1 : (-9223372036854775808) ≤ v1 ∧ v1 ≤ 9223372036854775807 := by rw [← e1]; exact (by have q := hI_M 685 (((102 * f) + 16) + k) (by decide); rw [xri_row rfl rfl] at q; exact q)
      refine jr.lald (i := (((102 * f) + 16) + k)) (x := v1) rfl (nlt rfl) rfl (Nat.le_of_ble_eq_true rfl) (by omega) (by omega) e1 ?_
      refine jr.last (i := k) (x := v1) rfl (nlt rfl) rfl (Nat.le_of_ble_eq_true rfl) (by omega) (by omega) ?_
      refine jr.iinc (ls' := [_, _, _, _]) rfl rfl (nlt rfl) rfl ?_
      refine jr.goto rfl rfl ?_
      refine jr.pick (ls := [_, _, _, _]) [0, 1, 2, 3] rfl rfl ?_
      exact ih (nM - 1) (by omega) (ju M 673 k v1) (k + 1) f (RI.u hI_M (a := 673) (i := k) (by rw [xri_row rfl rfl]; show (-9223372036854775808 : Int) ≤ _ ∧ _ ≤ (9223372036854775807 : Int); omega)) (RH.o hH_M (by decide) (by decide) (by decide)) (RF.o hS_M (by decide) (by decide))  (fun a i f598 f602 f624 f670 f671 f672 f673 => ((ju_c _ _ f673).trans (hF_M a i f598 f602 f624 f670 f671 f672 f673))) (fun i g112 => ((ju_c _ _ (by decide)).trans (hG_M i g112))) (by omega) (by omega) (AS.o hAS (by decide) (Or.inl (by decide))) (by omega) (by omega)
theorem r_giveBack_L35 {A : Nat → Option (Nat × (Nat → Int32))} {Q : Option Value → jm → Prop} {L : Int} {M0 : jm} (q : ∀ (M' : jm), RI M' → RH M' → RF M' → AS M' L → (∀ (a : Nat) (i : Int), a ≠ 598 → a ≠ 602 → a ≠ 624 → a ≠ 670 → a ≠ 671 → a ≠ 672 → a ≠ 673 → M' a i = M0 a i) → (∀ (i : Int), i ≠ 112 → M' 598 i = M0 598 i) → Q none M') : ∀ (nM : Nat) (M : jm) (k : Int) (f : Int), RI M → RH M → RF M → (∀ (a : Nat) (i : Int), a ≠ 598 → a ≠ 602 → a ≠ 624 → a ≠ 670 → a ≠ 671 → a ≠ 672 → a ≠ 673 → M a i = M0 a i) → (∀ (i : Int), i ≠ 112 → M 598 i = M0 598 i) → 0 ≤ k ∧ k ≤ 4 → 0 ≤ f ∧ f ≤ 8 → AS M L → L ≤ 2000000000 → 4 - k ≤ nM → jr A 3 xm_374 35 [(3, .int (Int32.ofInt (k))), (1, .int (Int32.ofInt (f))), (2, .int (Int32.ofInt (102 * f))), (0, .ref (598))] [] M Q := by
  intro nM
  induction nM using Nat.strongRecOn with
  | ind nM ih =>
    intro M k f hI_M hH_M hS_M hF_M hG_M h_k h_f hy0 hy1 hm
    have hAS := hy0
    have hl := hy0.1
    obtain ⟨va, hva⟩ : ∃ z, M 685 (((102 * f) + 8) + k) = z := ⟨_, rfl⟩
    obtain ⟨vb, hvb⟩ : ∃ z, M 685 (((102 * f) + 12) + k) = z := ⟨_, rfl⟩
    have ba := AS.at hy0 (f := f) (j := 8 + k) (i := ((102 * f) + 8) + k) (by omega) (by omega) (by omega)
    have bb := AS.at hy0 (f := f) (j := 12 + k) (i := ((102 * f) + 12) + k) (by omega) (by omega) (by omega)
    rw [hva] at ba
    rw [hvb] at bb
    refine jr.iload_n rfl rfl ?_
    refine jr.iconst rfl ?_
    refine jr.icmp_ge rfl rfl (by first | (refine rgb (by assumption) ?_; exact rfl) | omega) (rgl rfl) (fun h37 => ?_) (fun h37 => ?_)
    · refine jr.iconst rfl ?_
      refine jr.istore_n (ls' := [_, _, _, _]) rfl (nlt rfl) rfl ?_
      refine jr.pick (ls := [_, _, _, _]) [0, 1, 2, 3] rfl rfl ?_
      exact r_giveBack_L84 q 64 M 0 f hI_M hH_M hS_M  (fun a i f598 f602 f624 f670 f671 f672 f673 => (hF_M a i f598 f602 f624 f670 f671 f672 f673)) (fun i g112 => (hG_M i g112)) (by omega) (by omega) hAS (by omega) (by omega)
    · refine jr.aload_n rfl rfl ?_
      refine jr.getf (i := 36) (v := .ref 624) rfl rfl (nlt rfl) rfl (nlt rfl) rfl rfl rfl rfl ?_
      refine jr.iload_n rfl rfl ?_
      refine jr.aload_n rfl rfl ?_
      refine jr.getf (i := 129) (v := .ref 685) rfl rfl (nlt rfl) rfl (nlt rfl) rfl rfl rfl rfl ?_
      refine jr.iload_n rfl rfl ?_
      refine jr.bipush rfl (jbp _ (nlt rfl)) ?_
      refine jr.iadd rfl ?_
      refine jr.iload_n rfl rfl ?_
      refine jr.iadd rfl ?_
      refine jr.lald (i := (((102 * f) + 8) + k)) (x := va) rfl (nlt rfl) rfl (Nat.le_of_ble_eq_true rfl) (by omega) (by omega) hva ?_
      refine jr.l2i rfl ?_
      refine jr.iast (i := k) (x := va) rfl (nlt rfl) rfl (Nat.le_of_ble_eq_true rfl) (by omega) (by omega) ?_
      refine jr.aload_n rfl rfl ?_
      refine jr.getf (i := 115) (v := .ref 672) rfl rfl (nlt rfl) rfl (nlt rfl) rfl rfl rfl rfl ?_
      refine jr.iload_n rfl rfl ?_
      refine jr.aload_n rfl rfl ?_
      refine jr.getf (i := 129) (v := .ref 685) rfl rfl (nlt rfl) rfl (nlt rfl) rfl rfl rfl rfl ?_
      refine jr.iload_n rfl rfl ?_
      refine jr.bipush rfl (jbp _ (nlt rfl)) ?_
      refine jr.iadd rfl ?_
      refine jr.iload_n rfl rfl ?_
      refine jr.iadd rfl ?_
      refine jr.lald (i := (((102 * f) + 12) + k)) (x := vb) rfl (nlt rfl) rfl (Nat.le_of_ble_eq_true rfl) (by omega) (by omega) ((ju_c _ _ (by decide)).trans hvb) ?_
      refine jr.l2i rfl ?_
      refine jr.iast (i := k) (x := vb) rfl (nlt rfl) rfl (Nat.le_of_ble_eq_true rfl) (by omega) (by omega) ?_
      refine jr.iinc (ls' := [_, _, _, _]) rfl rfl (nlt rfl) rfl ?_
      refine jr.goto rfl rfl ?_
      refine jr.pick (ls := [_, _, _, _]) [0, 1, 2, 3] rfl rfl ?_
      exact ih (nM - 1) (by omega) (ju (ju M 624 k va) 672 k vb) (k + 1) f (RI.u (RI.u hI_M (a := 624) (i := k) (by rw [xri_row rfl rfl]; show (0 : Int) ≤ _ ∧ _ ≤ (1000 : Int); omega)) (a := 672) (i := k) (by rw [xri_row rfl rfl]; show (0 : Int) ≤ _ ∧ _ ≤ (16 : Int); omega)) (RH.o (RH.o hH_M (by decide) (by decide) (by decide)) (by decide) (by decide) (by decide)) (RF.o (RF.o hS_M (by decide) (by decide)) (by decide) (by decide))  (fun a i f598 f602 f624 f670 f671 f672 f673 => ((ju_c _ _ f672).trans ((ju_c _ _ f624).trans (hF_M a i f598 f602 f624 f670 f671 f672 f673)))) (fun i g112 => ((ju_c _ _ (by decide)).trans ((ju_c _ _ (by decide)).trans (hG_M i g112)))) (by omega) (by omega) (AS.o (AS.o hAS (by decide) (Or.inl (by decide))) (by decide) (Or.inl (by decide))) (by omega) (by omega)
theorem r_giveBack_L7 {A : Nat → Option (Nat × (Nat → Int32))} {Q : Option Value → jm → Prop} {L : Int} {M0 : jm} (q : ∀ (M' : jm), RI M' → RH M' → RF M' → AS M' L → (∀ (a : Nat) (i : Int), a ≠ 598 → a ≠ 602 → a ≠ 624 → a ≠ 670 → a ≠ 671 → a ≠ 672 → a ≠ 673 → M' a i = M0 a i) → (∀ (i : Int), i ≠ 112 → M' 598 i = M0 598 i) → Q none M') : ∀ (nM : Nat) (M : jm) (k : Int) (f : Int), RI M → RH M → RF M → (∀ (a : Nat) (i : Int), a ≠ 598 → a ≠ 602 → a ≠ 624 → a ≠ 670 → a ≠ 671 → a ≠ 672 → a ≠ 673 → M a i = M0 a i) → (∀ (i : Int), i ≠ 112 → M 598 i = M0 598 i) → 0 ≤ k ∧ k ≤ 8 → 0 ≤ f ∧ f ≤ 8 → AS M L → L ≤ 2000000000 → 8 - k ≤ nM → jr A 3 xm_374 7 [(3, .int (Int32.ofInt (k))), (1, .int (Int32.ofInt (f))), (2, .int (Int32.ofInt (102 * f))), (0, .ref (598))] [] M Q := by
  intro nM
  induction nM using Nat.strongRecOn with
  | ind nM ih =>
    intro M k f hI_M hH_M hS_M hF_M hG_M h_k h_f hy0 hy1 hm
    have hAS := hy0
    have hl := hy0.1
    refine jr.iload_n rfl rfl ?_
    refine jr.bipush rfl (jbp _ (nlt rfl)) ?_
    refine jr.icmp_ge rfl rfl (by first | (refine rgb (by assumption) ?_; exact rfl) | omega) (rgl rfl) (fun h10 => ?_) (fun h10 => ?_)
    · refine jr.iconst rfl ?_
      refine jr.istore_n (ls' := [_, _, _, _]) rfl (nlt rfl) rfl ?_
      refine jr.pick (ls := [_, _, _, _]) [0, 1, 2, 3] rfl rfl ?_
      exact r_giveBack_L35 q 4 M 0 f hI_M hH_M hS_M  (fun a i f598 f602 f624 f670 f671 f672 f673 => (hF_M a i f598 f602 f624 f670 f671 f672 f673)) (fun i g112 => (hG_M i g112)) (by omega) (by omega) hAS (by omega) (by omega)
    · refine jr.aload_n rfl rfl ?_
      refine jr.getf (i := 114) (v := .ref 671) rfl rfl (nlt rfl) rfl (nlt rfl) rfl rfl rfl rfl ?_
      refine jr.iload_n rfl rfl ?_
      refine jr.aload_n rfl rfl ?_
      refine jr.getf (i := 129) (v := .ref 685) rfl rfl (nlt rfl) rfl (nlt rfl) rfl rfl rfl rfl ?_
      refine jr.iload_n rfl rfl ?_
      refine jr.iload_n rfl rfl ?_
      refine jr.iadd rfl ?_
      obtain ⟨v1, e1⟩ : ∃ z, M 685 ((102 * f) + k) = z := ⟨_, rfl⟩
      have b1 : (-9223372036854775808) ≤ v1 ∧ v1 ≤ 9223372036854775807 := by rw [← e1]; exact (by have q := hI_M 685 ((102 * f) + k) (by decide); rw [xri_row rfl rfl] at q; exact q)
      refine jr.lald (i := ((102 * f) + k)) (x := v1) rfl (nlt rfl) rfl (Nat.le_of_ble_eq_true rfl) (by omega) (by omega) e1 ?_
      refine jr.last (i := k) (x := v1) rfl (nlt rfl) rfl (Nat.le_of_ble_eq_true rfl) (by omega) (by omega) ?_
      refine jr.iinc (ls' := [_, _, _, _]) rfl rfl (nlt rfl) rfl ?_
      refine jr.goto rfl rfl ?_
      refine jr.pick (ls := [_, _, _, _]) [0, 1, 2, 3] rfl rfl ?_
      exact ih (nM - 1) (by omega) (ju M 671 k v1) (k + 1) f (RI.u hI_M (a := 671) (i := k) (by rw [xri_row rfl rfl]; show (-9223372036854775808 : Int) ≤ _ ∧ _ ≤ (9223372036854775807 : Int); omega)) (RH.o hH_M (by decide) (by decide) (by decide)) (RF.o hS_M (by decide) (by decide))  (fun a i f598 f602 f624 f670 f671 f672 f673 => ((ju_c _ _ f671).trans (hF_M a i f598 f602 f624 f670 f671 f672 f673))) (fun i g112 => ((ju_c _ _ (by decide)).trans (hG_M i g112))) (by omega) (by omega) (AS.o hAS (by decide) (Or.inl (by decide))) (by omega) (by omega)
theorem r_giveBack {A : Nat → Option (Nat × (Nat → Int32))} {Q : Option Value → jm → Prop} {L : Int} {M : jm} (hI_M : RI M) (hH_M : RH M) (hS_M : RF M) {f : Int} (h_f : 0 ≤ f ∧ f ≤ 8) (p0 : AS M L) (p1 : L ≤ 2000000000) (q : ∀ (M' : jm), RI M' → RH M' → RF M' → AS M' L → (∀ (a : Nat) (i : Int), a ≠ 598 → a ≠ 602 → a ≠ 624 → a ≠ 670 → a ≠ 671 → a ≠ 672 → a ≠ 673 → M' a i = M a i) → (∀ (i : Int), i ≠ 112 → M' 598 i = M 598 i) → Q none M') : jc A 4 374 [.ref (598), .int (Int32.ofInt (f))] M Q := by
  have hAS := p0
  refine jc_of (m := xm_374) rfl (Nat.le_of_ble_eq_true rfl) rfl ?_
  refine jr.bipush rfl (jbp _ (nlt rfl)) ?_
  refine jr.iload_n rfl rfl ?_
  refine jr.imul rfl ?_
  refine jr.istore_n (ls' := [_, _, _]) rfl (nlt rfl) rfl ?_
  refine jr.iconst rfl ?_
  refine jr.istore_n (ls' := [_, _, _, _]) rfl (nlt rfl) rfl ?_
  refine jr.pick (ls := [_, _, _, _]) [0, 3, 1, 2] rfl rfl ?_
  exact r_giveBack_L7 q 8 M 0 f hI_M hH_M hS_M  (fun a i f598 f602 f624 f670 f671 f672 f673 => rfl) (fun i g112 => rfl) (by omega) (by omega) hAS (by omega) (by omega)
end
section
/-! ===== the reference: contracts, 37.md ===== -/
/-- the code that runs: its heights, its length -/
noncomputable def MX (M : jm) (ht : Int → Int) (n : Int) : Prop := 1 ≤ n ∧ n ≤ 2000 ∧ (∀ i : Int, 0 ≤ i → i < n → OPk (M 654) (M 655) (M 598 82) ht (n - 1) False i) ∧ (∀ c : Int, 0 ≤ c → c < M 598 82 → ENk (M 654) ht (n - 1) (M 652 c) ∧ (M 653 c = -1 ∨ ENk (M 654) ht (n - 1) (M 653 c))) ∧ M 654 (n - 1) = 3
theorem MX.fr {M M' : jm} {ht : Int → Int} {n : Int} (h : MX M ht n) (e2 : ∀ i : Int, M' 652 i = M 652 i) (e3 : ∀ i : Int, M' 653 i = M 653 i) (e4 : ∀ i : Int, M' 654 i = M 654 i) (e5 : ∀ i : Int, M' 655 i = M 655 i) (g : M' 598 82 = M 598 82) : MX M' ht n := by
  unfold MX at h ⊢
  rw [show M' 652 = M 652 from funext e2, show M' 653 = M 653 from funext e3, show M' 654 = M 654 from funext e4, show M' 655 = M 655 from funext e5, g]
  exact h
theorem MX.o {M : jm} {ht : Int → Int} {n : Int} (h : MX M ht n) {a : Nat} {i v : Int} (h1 : a < 652 ∨ 655 < a) (h2 : a ≠ 598 ∨ i ≠ 82) : MX (ju M a i v) ht n := by
  refine h.fr (fun j => ju_c M v (by omega)) (fun j => ju_c M v (by omega)) (fun j => ju_c M v (by omega)) (fun j => ju_c M v (by omega)) ?_
  rcases h2 with h2 | h2
  · exact ju_c M v (fun e => h2 e.symm)
  · exact ju_i M v (fun e => h2 e.symm)
/-- a place to go on at, with an empty pile -/
noncomputable def REr (co ht : Int → Int) (n e : Int) : Prop := 0 ≤ e ∧ e < n ∧ ht e = 0 ∧ co e ≠ 28 ∧ co e ≠ 29
theorem MX.re {M : jm} {ht : Int → Int} {n e : Int} (h : MX M ht n) (he : ENk (M 654) ht (n - 1) e) : REr (M 654) ht n e := by
  obtain ⟨h1, h2, h3, h4, h5⟩ := h
  obtain ⟨a1, a2, a3, a4⟩ := he
  obtain ⟨_, _, _, d⟩ := h3 e a1 (by omega)
  refine ⟨a1, by omega, a3, fun q => ?_, fun q => ?_⟩
  · obtain ⟨u1, u2, _⟩ := d (Or.inl q)
    rcases a4 with w | w
    · omega
    · exact w u2
  · obtain ⟨u1, u2, _⟩ := d (Or.inr q)
    rcases a4 with w | w
    · omega
    · exact w u2
noncomputable def FRS (M : jm) (ht : Int → Int) (n F : Int) : Prop := ∀ f : Int, 0 ≤ f → f < F → 0 ≤ M 679 f ∧ M 679 f < M 598 82 ∧ (1 ≤ f → REr (M 654) ht n (M 681 f))
theorem FRS.fr {M M' : jm} {ht : Int → Int} {n F F' : Int} (h : FRS M ht n F) (e1 : ∀ i : Int, M' 679 i = M 679 i) (e2 : ∀ i : Int, M' 681 i = M 681 i) (e4 : ∀ i : Int, M' 654 i = M 654 i) (g : M' 598 82 = M 598 82) (hF : F' ≤ F) : FRS M' ht n F' := by
  intro f f0 f1
  rw [e1, e2, show M' 654 = M 654 from funext e4, g]
  exact h f f0 (by omega)
noncomputable def phi (M : jm) : Int := 2 * M 598 122 + (if M 680 (M 598 122 - 1) = 0 then 1 else 0)
theorem phi.le (M : jm) : 2 * M 598 122 ≤ phi M ∧ phi M ≤ 2 * M 598 122 + 1 := by
  unfold phi
  split <;> omega
theorem phi.z {M : jm} {F b : Int} (e1 : M 598 122 = F) (e2 : M 680 (F - 1) = b) : (b = 0 → phi M = 2 * F + 1) ∧ (b ≠ 0 → phi M = 2 * F) := by
  unfold phi
  rw [e1, e2]
  refine ⟨fun q => by rw [if_pos q], fun q => by rw [if_neg q]; omega⟩
theorem phi.fr {M M' : jm} (e1 : M' 598 122 = M 598 122) (e2 : ∀ i : Int, M' 680 i = M 680 i) : phi M' = phi M := by
  unfold phi
  rw [e1, e2]
theorem r_leave_L5 {A : Nat → Option (Nat × (Nat → Int32))} {Q : Option Value → jm → Prop} {L n : Int} {ht : Int → Int} {M0 : jm} (q : ∀ (M' : jm), RI M' → RH M' → RF M' → AS M' L → ((M' 598 136 = 1) ∨ (M' 598 136 = M0 598 136 ∧ FRS M' ht n (M' 598 122) ∧ 1 ≤ M' 598 122 ∧ M' 598 122 ≤ 8 ∧ REr (M' 654) ht n (M' 598 132) ∧ phi M' < phi M0)) → (∀ (a : Nat) (i : Int), a ≠ 598 → a ≠ 602 → a ≠ 624 → a ≠ 670 → a ≠ 671 → a ≠ 672 → a ≠ 673 → a ≠ 680 → a ≠ 683 → a ≠ 684 → M' a i = M0 a i) → (∀ (i : Int), i ≠ 112 → i ≠ 122 → i ≠ 132 → i ≠ 134 → i ≠ 136 → i ≠ 137 → i ≠ 138 → M' 598 i = M0 598 i) → Q none M') : ∀ (nM : Nat) (M : jm) (v : Int) (k : Int), RI M → RH M → RF M → (∀ (a : Nat) (i : Int), a ≠ 598 → a ≠ 602 → a ≠ 624 → a ≠ 670 → a ≠ 671 → a ≠ 672 → a ≠ 673 → a ≠ 680 → a ≠ 683 → a ≠ 684 → M a i = M0 a i) → (∀ (i : Int), i ≠ 112 → i ≠ 122 → i ≠ 132 → i ≠ 134 → i ≠ 136 → i ≠ 137 → i ≠ 138 → M 598 i = M0 598 i) → 0 ≤ v ∧ v ≤ 8 → 0 ≤ k ∧ k ≤ 2 → MX M ht n → FRS M ht n (M 598 122) → 1 ≤ M 598 122 ∧ M 598 122 ≤ 8 → AS M L → L ≤ 2000000000 → phi M ≤ phi M0 → M 598 136 = M0 598 136 → M 598 122 ≤ nM → jr A 4 xm_377 5 [(4, .int (Int32.ofInt (v))), (3, .int (Int32.ofInt (k))), (0, .ref (598))] [] M Q := by
  intro nM
  induction nM using Nat.strongRecOn with
  | ind nM ih =>
    intro M v k hI_M hH_M hS_M hF_M hG_M h_v h_k hy0 hy1 hy2 hy3 hy4 hy5 hy6 hm
    have hMX := hy0
    have hFR := hy1
    have hAS := hy3
    obtain ⟨F, hF⟩ : ∃ z, M 598 122 = z := ⟨_, rfl⟩
    have fr0 := hFR (F - 1) (by omega) (by omega)
    obtain ⟨c, hc⟩ : ∃ z, M 679 (F - 1) = z := ⟨_, rfl⟩
    obtain ⟨bk, hbk⟩ : ∃ z, M 681 (F - 1) = z := ⟨_, rfl⟩
    rw [hc, hbk] at fr0
    obtain ⟨bh, hbh⟩ : ∃ z, M 653 c = z := ⟨_, rfl⟩
    obtain ⟨be, hbe⟩ : ∃ z, M 680 (F - 1) = z := ⟨_, rfl⟩
    have en := (hMX.2.2.2.1 c fr0.1 fr0.2.1).2
    rw [hbh] at en
    have b_c : (0 : Int) ≤ c ∧ c ≤ (15 : Int) := by rw [← hc]; exact (by have q := hI_M 679 (F - 1) (Nat.le_of_ble_eq_true rfl); rw [xri_row rfl rfl] at q; exact q)
    have b_bk : (0 : Int) ≤ bk ∧ bk ≤ (2200 : Int) := by rw [← hbk]; exact (by have q := hI_M 681 (F - 1) (Nat.le_of_ble_eq_true rfl); rw [xri_row rfl rfl] at q; exact q)
    have b_bh : (-1 : Int) ≤ bh ∧ bh ≤ (2200 : Int) := by rw [← hbh]; exact (by have q := hI_M 653 (c) (Nat.le_of_ble_eq_true rfl); rw [xri_row rfl rfl] at q; exact q)
    have b_be : (0 : Int) ≤ be ∧ be ≤ (1 : Int) := by rw [← hbe]; exact (by have q := hI_M 680 (F - 1) (Nat.le_of_ble_eq_true rfl); rw [xri_row rfl rfl] at q; exact q)
    refine jr.aload_n rfl rfl ?_
    refine jr.getf (i := 122) (x := F) (v := .int (Int32.ofInt (F))) rfl rfl (nlt rfl) rfl (nlt rfl) rfl rfl hF rfl ?_
    refine jr.iconst rfl ?_
    refine jr.isub rfl ?_
    refine jr.istore (ls' := [_, _, _, _]) rfl (nlt rfl) rfl ?_
    refine jr.aload_n rfl rfl ?_
    refine jr.getf (i := 123) (v := .ref 679) rfl rfl (nlt rfl) rfl (nlt rfl) rfl rfl rfl rfl ?_
    refine jr.iload rfl rfl ?_
    refine jr.iald (i := (F - 1)) (x := c) rfl (nlt rfl) rfl (Nat.le_of_ble_eq_true rfl) (by omega) (by omega) hc ?_
    refine jr.istore (ls' := [_, _, _, _, _]) rfl (nlt rfl) rfl ?_
    refine jr.iload_n rfl rfl ?_
    refine jr.iconst rfl ?_
    refine jr.icmp_ne rfl rfl (by first | (refine rgb (by assumption) ?_; exact rfl) | omega) (rgl rfl) (fun h24 => ?_) (fun h24 => ?_)
    · have sx24 : k ≤ (1 : Int) := by omega
      clear h24
      refine jr.aload_n rfl rfl ?_
      refine jr.getf (i := 124) (v := .ref 680) rfl rfl (nlt rfl) rfl (nlt rfl) rfl rfl rfl rfl ?_
      refine jr.iload rfl rfl ?_
      refine jr.zald (i := (F - 1)) (x := be) rfl (nlt rfl) rfl (Nat.le_of_ble_eq_true rfl) (by omega) (by omega) hbe ?_
      refine jr.if_ne rfl rfl (by first | (refine rgb (by assumption) ?_; exact rfl) | omega) (fun h40 => ?_) (fun h40 => ?_)
      · have sx40 : (1 : Int) ≤ be := by omega
        clear h40
        refine jr.aload_n rfl rfl ?_
        refine jr.dup rfl rfl ?_
        refine jr.getf (i := 122) (x := F) (v := .int (Int32.ofInt (F))) rfl rfl (nlt rfl) rfl (nlt rfl) rfl rfl hF rfl ?_
        refine jr.iconst rfl ?_
        refine jr.isub rfl ?_
        refine jr.putf (i := 122) (x := (F - 1)) rfl rfl (nlt rfl) rfl (nlt rfl) rfl rfl rfl rfl rfl ?_
        refine jr.aload_n rfl rfl ?_
        refine jr.getf (i := 122) (x := (F - 1)) (v := .int (Int32.ofInt (F - 1))) rfl rfl (nlt rfl) rfl (nlt rfl) rfl rfl (ju_same _ _ _ _) rfl ?_
        refine jr.if_ne rfl rfl (by first | (refine rgb (by assumption) ?_; exact rfl) | omega) (fun h105 => ?_) (fun h105 => ?_)
        · have sx105 : (1 : Int) ≤ (F - 1) := by omega
          clear h105
          refine jr.iload_n rfl rfl ?_
          refine jr.iconst rfl ?_
          refine jr.icmp_ne rfl rfl (by first | (refine rgb (by assumption) ?_; exact rfl) | omega) (rgl rfl) (fun h127 => ?_) (fun h127 => ?_)
          · refine jr.iconst rfl ?_
            refine jr.istore (ls' := [_, _, _, _, _, _]) rfl (nlt rfl) rfl ?_
            refine jr.iload_n rfl rfl ?_
            refine jr.if_eq rfl rfl (by first | (refine rgb (by assumption) ?_; exact rfl) | omega) (fun h155 => ?_) (fun h155 => ?_)
            · refine jr.aload_n rfl rfl ?_
              refine jr.iload rfl rfl ?_
              refine jr.if_eq rfl rfl (by first | exact rgl rfl | omega) (fun _ => ?_) (fun h => absurd (by decide) h)
              refine jr.aload_n rfl rfl ?_
              obtain ⟨v1, e1⟩ : ∃ z, M 598 134 = z := ⟨_, rfl⟩
              have b1 : 0 ≤ v1 ∧ v1 ≤ 8 := by rw [← e1]; exact hI_M 598 134 (Nat.le_of_ble_eq_true rfl)
              refine jr.getf (i := 134) (x := v1) (v := .int (Int32.ofInt (v1))) rfl rfl (nlt rfl) rfl (nlt rfl) rfl rfl ((ju_i _ _ (zne (by decide))).trans e1) rfl ?_
              refine jr.putf (i := 134) (x := v1) rfl rfl (nlt rfl) rfl (nlt rfl) rfl rfl rfl rfl rfl ?_
              refine jr.aload_n rfl rfl ?_
              refine jr.aload_n rfl rfl ?_
              refine jr.getf (i := 125) (v := .ref 681) rfl rfl (nlt rfl) rfl (nlt rfl) rfl rfl rfl rfl ?_
              refine jr.iload rfl rfl ?_
              refine jr.iald (i := (F - 1)) (x := bk) rfl (nlt rfl) rfl (Nat.le_of_ble_eq_true rfl) (by omega) (by omega) ((ju_c _ _ (by decide)).trans ((ju_c _ _ (by decide)).trans hbk)) ?_
              refine jr.putf (i := 132) (x := bk) rfl rfl (nlt rfl) rfl (nlt rfl) rfl rfl rfl rfl rfl ?_
              have y2 : (ju (ju (ju M 598 122 (F - 1)) 598 134 v1) 598 132 bk) 598 122 = F - 1 := ((ju_i _ _ (zne (by decide))).trans ((ju_i _ _ (zne (by decide))).trans (ju_same _ _ _ _)))
              obtain ⟨v3, e3⟩ : ∃ z, M 598 136 = z := ⟨_, rfl⟩
              have b3 : 0 ≤ v3 ∧ v3 ≤ 1 := by rw [← e3]; exact hI_M 598 136 (Nat.le_of_ble_eq_true rfl)
              have y4 : (ju (ju (ju M 598 122 (F - 1)) 598 134 v1) 598 132 bk) 598 136 = v3 := ((ju_i _ _ (zne (by decide))).trans ((ju_i _ _ (zne (by decide))).trans ((ju_i _ _ (zne (by decide))).trans e3)))
              exact jr.vreturn rfl rfl (q _ (RI.u (RI.u (RI.u hI_M (a := 598) (i := 122) (show (0 : Int) ≤ _ ∧ _ ≤ (9 : Int) from by omega)) (a := 598) (i := 134) (show (0 : Int) ≤ _ ∧ _ ≤ (8 : Int) from by omega)) (a := 598) (i := 132) (show (0 : Int) ≤ _ ∧ _ ≤ (2200 : Int) from by omega)) (RH.o (RH.o (RH.o hH_M (by decide) (by decide) (by decide)) (by decide) (by decide) (by decide)) (by decide) (by decide) (by decide)) (RF.o (RF.o (RF.o hS_M (by decide) (by decide)) (by decide) (by decide)) (by decide) (by decide))  (AS.o (AS.o (AS.o hAS (by decide) (Or.inr (by decide))) (by decide) (Or.inr (by decide))) (by decide) (Or.inr (by decide))) (Or.inr ⟨by omega, (FRS.fr hFR (fun i => ((ju_c _ _ (by decide)).trans ((ju_c _ _ (by decide)).trans ((ju_c _ _ (by decide)).trans (rfl))))) (fun i => ((ju_c _ _ (by decide)).trans ((ju_c _ _ (by decide)).trans ((ju_c _ _ (by decide)).trans (rfl))))) (fun i => ((ju_c _ _ (by decide)).trans ((ju_c _ _ (by decide)).trans ((ju_c _ _ (by decide)).trans (rfl))))) ((ju_i _ _ (zne (by decide))).trans ((ju_i _ _ (zne (by decide))).trans ((ju_i _ _ (zne (by decide))).trans (rfl)))) (by omega)), by omega, by omega, (by rw [show (ju (ju (ju M 598 122 (F - 1)) 598 134 v1) 598 132 bk) 654 = M 654 from funext (fun i => ((ju_c _ _ (by decide)).trans ((ju_c _ _ (by decide)).trans ((ju_c _ _ (by decide)).trans (rfl))))), (ju_same _ _ _ _)]; exact fr0.2.2 (by omega)), (by have z1 := (phi.le (ju (ju (ju M 598 122 (F - 1)) 598 134 v1) 598 132 bk)).2; have z2 := (phi.le M).1; omega)⟩) (fun a i f598 f602 f624 f670 f671 f672 f673 f680 f683 f684 => ((ju_c _ _ f598).trans ((ju_c _ _ f598).trans ((ju_c _ _ f598).trans (hF_M a i f598 f602 f624 f670 f671 f672 f673 f680 f683 f684))))) (fun i g112 g122 g132 g134 g136 g137 g138 => ((ju_i _ _ g132).trans ((ju_i _ _ g134).trans ((ju_i _ _ g122).trans (hG_M i g112 g122 g132 g134 g136 g137 g138))))))
            · have sx155 : (1 : Int) ≤ k := by omega
              clear h155
              refine jr.iload rfl rfl ?_
              refine jr.if_eq rfl rfl (by first | exact rgl rfl | omega) (fun _ => ?_) (fun h => absurd (by decide) h)
              refine jr.goto rfl rfl ?_
              have y5 : (ju M 598 122 (F - 1)) 598 122 = F - 1 := (ju_same _ _ _ _)
              obtain ⟨v6, e6⟩ : ∃ z, M 598 136 = z := ⟨_, rfl⟩
              have b6 : 0 ≤ v6 ∧ v6 ≤ 1 := by rw [← e6]; exact hI_M 598 136 (Nat.le_of_ble_eq_true rfl)
              refine jr.pick (ls := [_, _, _]) [3, 4, 5] rfl rfl ?_
              exact ih (nM - 1) (by omega) (ju M 598 122 (F - 1)) v k (RI.u hI_M (a := 598) (i := 122) (show (0 : Int) ≤ _ ∧ _ ≤ (9 : Int) from by omega)) (RH.o hH_M (by decide) (by decide) (by decide)) (RF.o hS_M (by decide) (by decide))  (fun a i f598 f602 f624 f670 f671 f672 f673 f680 f683 f684 => ((ju_c _ _ f598).trans (hF_M a i f598 f602 f624 f670 f671 f672 f673 f680 f683 f684))) (fun i g112 g122 g132 g134 g136 g137 g138 => ((ju_i _ _ g122).trans (hG_M i g112 g122 g132 g134 g136 g137 g138))) (by omega) (by omega) (MX.o hMX (by decide) (Or.inr (by decide))) (FRS.fr hFR (fun i => ((ju_c _ _ (by decide)).trans (rfl))) (fun i => ((ju_c _ _ (by decide)).trans (rfl))) (fun i => ((ju_c _ _ (by decide)).trans (rfl))) ((ju_i _ _ (zne (by decide))).trans (rfl)) (by omega)) (by rw [(ju_same _ _ _ _)] <;> omega) (AS.o hAS (by decide) (Or.inr (by decide))) (by omega) (by have z1 := (phi.le (ju M 598 122 (F - 1))).2; have z2 := (phi.le M).1; omega) (by rw [((ju_i _ _ (zne (by decide))).trans e6)] <;> omega) (by rw [(ju_same _ _ _ _)]; omega)
          · exact absurd (by omega) h127
        · refine jr.aload_n rfl rfl ?_
          refine jr.iconst rfl ?_
          refine jr.putf (i := 136) (x := 1) rfl rfl (nlt rfl) rfl (nlt rfl) rfl rfl rfl rfl rfl ?_
          refine jr.aload_n rfl rfl ?_
          refine jr.iload_n rfl rfl ?_
          refine jr.putf (i := 137) (x := k) rfl rfl (nlt rfl) rfl (nlt rfl) rfl rfl rfl rfl rfl ?_
          refine jr.aload_n rfl rfl ?_
          refine jr.iload rfl rfl ?_
          refine jr.putf (i := 138) (x := v) rfl rfl (nlt rfl) rfl (nlt rfl) rfl rfl rfl rfl rfl ?_
          have y7 : (ju (ju (ju (ju M 598 122 (F - 1)) 598 136 1) 598 137 k) 598 138 v) 598 122 = F - 1 := ((ju_i _ _ (zne (by decide))).trans ((ju_i _ _ (zne (by decide))).trans ((ju_i _ _ (zne (by decide))).trans (ju_same _ _ _ _))))
          have y8 : (ju (ju (ju (ju M 598 122 (F - 1)) 598 136 1) 598 137 k) 598 138 v) 598 136 = 1 := ((ju_i _ _ (zne (by decide))).trans ((ju_i _ _ (zne (by decide))).trans (ju_same _ _ _ _)))
          exact jr.vreturn rfl rfl (q _ (RI.u (RI.u (RI.u (RI.u hI_M (a := 598) (i := 122) (show (0 : Int) ≤ _ ∧ _ ≤ (9 : Int) from by omega)) (a := 598) (i := 136) (show (0 : Int) ≤ _ ∧ _ ≤ (1 : Int) from by omega)) (a := 598) (i := 137) (show (0 : Int) ≤ _ ∧ _ ≤ (2 : Int) from by omega)) (a := 598) (i := 138) (show (0 : Int) ≤ _ ∧ _ ≤ (8 : Int) from by omega)) (RH.o (RH.o (RH.o (RH.o hH_M (by decide) (by decide) (by decide)) (by decide) (by decide) (by decide)) (by decide) (by decide) (by decide)) (by decide) (by decide) (by decide)) (RF.o (RF.o (RF.o (RF.o hS_M (by decide) (by decide)) (by decide) (by decide)) (by decide) (by decide)) (by decide) (by decide))  (AS.o (AS.o (AS.o (AS.o hAS (by decide) (Or.inr (by decide))) (by decide) (Or.inr (by decide))) (by decide) (Or.inr (by decide))) (by decide) (Or.inr (by decide))) (Or.inl (((ju_i _ _ (zne (by decide))).trans ((ju_i _ _ (zne (by decide))).trans (ju_same _ _ _ _))))) (fun a i f598 f602 f624 f670 f671 f672 f673 f680 f683 f684 => ((ju_c _ _ f598).trans ((ju_c _ _ f598).trans ((ju_c _ _ f598).trans ((ju_c _ _ f598).trans (hF_M a i f598 f602 f624 f670 f671 f672 f673 f680 f683 f684)))))) (fun i g112 g122 g132 g134 g136 g137 g138 => ((ju_i _ _ g138).trans ((ju_i _ _ g137).trans ((ju_i _ _ g136).trans ((ju_i _ _ g122).trans (hG_M i g112 g122 g132 g134 g136 g137 g138)))))))
      · refine jr.aload_n rfl rfl ?_
        refine jr.getf (i := 85) (v := .ref 653) rfl rfl (nlt rfl) rfl (nlt rfl) rfl rfl rfl rfl ?_
        refine jr.iload rfl rfl ?_
        refine jr.iald (i := c) (x := bh) rfl (nlt rfl) rfl (Nat.le_of_ble_eq_true rfl) (by omega) (by omega) hbh ?_
        refine jr.iconst rfl ?_
        refine jr.icmp_eq rfl rfl (by first | (refine rgb (by assumption) ?_; exact rfl) | omega) (rgl rfl) (fun h51 => ?_) (fun h51 => ?_)
        · refine jr.aload_n rfl rfl ?_
          refine jr.dup rfl rfl ?_
          refine jr.getf (i := 122) (x := F) (v := .int (Int32.ofInt (F))) rfl rfl (nlt rfl) rfl (nlt rfl) rfl rfl hF rfl ?_
          refine jr.iconst rfl ?_
          refine jr.isub rfl ?_
          refine jr.putf (i := 122) (x := (F - 1)) rfl rfl (nlt rfl) rfl (nlt rfl) rfl rfl rfl rfl rfl ?_
          refine jr.aload_n rfl rfl ?_
          refine jr.getf (i := 122) (x := (F - 1)) (v := .int (Int32.ofInt (F - 1))) rfl rfl (nlt rfl) rfl (nlt rfl) rfl rfl (ju_same _ _ _ _) rfl ?_
          refine jr.if_ne rfl rfl (by first | (refine rgb (by assumption) ?_; exact rfl) | omega) (fun h105 => ?_) (fun h105 => ?_)
          · have sx105 : (1 : Int) ≤ (F - 1) := by omega
            clear h105
            refine jr.iload_n rfl rfl ?_
            refine jr.iconst rfl ?_
            refine jr.icmp_ne rfl rfl (by first | (refine rgb (by assumption) ?_; exact rfl) | omega) (rgl rfl) (fun h127 => ?_) (fun h127 => ?_)
            · refine jr.iconst rfl ?_
              refine jr.istore (ls' := [_, _, _, _, _, _]) rfl (nlt rfl) rfl ?_
              refine jr.iload_n rfl rfl ?_
              refine jr.if_eq rfl rfl (by first | (refine rgb (by assumption) ?_; exact rfl) | omega) (fun h155 => ?_) (fun h155 => ?_)
              · refine jr.aload_n rfl rfl ?_
                refine jr.iload rfl rfl ?_
                refine jr.if_eq rfl rfl (by first | exact rgl rfl | omega) (fun _ => ?_) (fun h => absurd (by decide) h)
                refine jr.aload_n rfl rfl ?_
                obtain ⟨v9, e9⟩ : ∃ z, M 598 134 = z := ⟨_, rfl⟩
                have b9 : 0 ≤ v9 ∧ v9 ≤ 8 := by rw [← e9]; exact hI_M 598 134 (Nat.le_of_ble_eq_true rfl)
                refine jr.getf (i := 134) (x := v9) (v := .int (Int32.ofInt (v9))) rfl rfl (nlt rfl) rfl (nlt rfl) rfl rfl ((ju_i _ _ (zne (by decide))).trans e9) rfl ?_
                refine jr.putf (i := 134) (x := v9) rfl rfl (nlt rfl) rfl (nlt rfl) rfl rfl rfl rfl rfl ?_
                refine jr.aload_n rfl rfl ?_
                refine jr.aload_n rfl rfl ?_
                refine jr.getf (i := 125) (v := .ref 681) rfl rfl (nlt rfl) rfl (nlt rfl) rfl rfl rfl rfl ?_
                refine jr.iload rfl rfl ?_
                refine jr.iald (i := (F - 1)) (x := bk) rfl (nlt rfl) rfl (Nat.le_of_ble_eq_true rfl) (by omega) (by omega) ((ju_c _ _ (by decide)).trans ((ju_c _ _ (by decide)).trans hbk)) ?_
                refine jr.putf (i := 132) (x := bk) rfl rfl (nlt rfl) rfl (nlt rfl) rfl rfl rfl rfl rfl ?_
                have y10 : (ju (ju (ju M 598 122 (F - 1)) 598 134 v9) 598 132 bk) 598 122 = F - 1 := ((ju_i _ _ (zne (by decide))).trans ((ju_i _ _ (zne (by decide))).trans (ju_same _ _ _ _)))
                obtain ⟨v11, e11⟩ : ∃ z, M 598 136 = z := ⟨_, rfl⟩
                have b11 : 0 ≤ v11 ∧ v11 ≤ 1 := by rw [← e11]; exact hI_M 598 136 (Nat.le_of_ble_eq_true rfl)
                have y12 : (ju (ju (ju M 598 122 (F - 1)) 598 134 v9) 598 132 bk) 598 136 = v11 := ((ju_i _ _ (zne (by decide))).trans ((ju_i _ _ (zne (by decide))).trans ((ju_i _ _ (zne (by decide))).trans e11)))
                exact jr.vreturn rfl rfl (q _ (RI.u (RI.u (RI.u hI_M (a := 598) (i := 122) (show (0 : Int) ≤ _ ∧ _ ≤ (9 : Int) from by omega)) (a := 598) (i := 134) (show (0 : Int) ≤ _ ∧ _ ≤ (8 : Int) from by omega)) (a := 598) (i := 132) (show (0 : Int) ≤ _ ∧ _ ≤ (2200 : Int) from by omega)) (RH.o (RH.o (RH.o hH_M (by decide) (by decide) (by decide)) (by decide) (by decide) (by decide)) (by decide) (by decide) (by decide)) (RF.o (RF.o (RF.o hS_M (by decide) (by decide)) (by decide) (by decide)) (by decide) (by decide))  (AS.o (AS.o (AS.o hAS (by decide) (Or.inr (by decide))) (by decide) (Or.inr (by decide))) (by decide) (Or.inr (by decide))) (Or.inr ⟨by omega, (FRS.fr hFR (fun i => ((ju_c _ _ (by decide)).trans ((ju_c _ _ (by decide)).trans ((ju_c _ _ (by decide)).trans (rfl))))) (fun i => ((ju_c _ _ (by decide)).trans ((ju_c _ _ (by decide)).trans ((ju_c _ _ (by decide)).trans (rfl))))) (fun i => ((ju_c _ _ (by decide)).trans ((ju_c _ _ (by decide)).trans ((ju_c _ _ (by decide)).trans (rfl))))) ((ju_i _ _ (zne (by decide))).trans ((ju_i _ _ (zne (by decide))).trans ((ju_i _ _ (zne (by decide))).trans (rfl)))) (by omega)), by omega, by omega, (by rw [show (ju (ju (ju M 598 122 (F - 1)) 598 134 v9) 598 132 bk) 654 = M 654 from funext (fun i => ((ju_c _ _ (by decide)).trans ((ju_c _ _ (by decide)).trans ((ju_c _ _ (by decide)).trans (rfl))))), (ju_same _ _ _ _)]; exact fr0.2.2 (by omega)), (by have z1 := (phi.le (ju (ju (ju M 598 122 (F - 1)) 598 134 v9) 598 132 bk)).2; have z2 := (phi.le M).1; omega)⟩) (fun a i f598 f602 f624 f670 f671 f672 f673 f680 f683 f684 => ((ju_c _ _ f598).trans ((ju_c _ _ f598).trans ((ju_c _ _ f598).trans (hF_M a i f598 f602 f624 f670 f671 f672 f673 f680 f683 f684))))) (fun i g112 g122 g132 g134 g136 g137 g138 => ((ju_i _ _ g132).trans ((ju_i _ _ g134).trans ((ju_i _ _ g122).trans (hG_M i g112 g122 g132 g134 g136 g137 g138))))))
              · have sx155 : (1 : Int) ≤ k := by omega
                clear h155
                refine jr.iload rfl rfl ?_
                refine jr.if_eq rfl rfl (by first | exact rgl rfl | omega) (fun _ => ?_) (fun h => absurd (by decide) h)
                refine jr.goto rfl rfl ?_
                have y13 : (ju M 598 122 (F - 1)) 598 122 = F - 1 := (ju_same _ _ _ _)
                obtain ⟨v14, e14⟩ : ∃ z, M 598 136 = z := ⟨_, rfl⟩
                have b14 : 0 ≤ v14 ∧ v14 ≤ 1 := by rw [← e14]; exact hI_M 598 136 (Nat.le_of_ble_eq_true rfl)
                refine jr.pick (ls := [_, _, _]) [3, 4, 5] rfl rfl ?_
                exact ih (nM - 1) (by omega) (ju M 598 122 (F - 1)) v k (RI.u hI_M (a := 598) (i := 122) (show (0 : Int) ≤ _ ∧ _ ≤ (9 : Int) from by omega)) (RH.o hH_M (by decide) (by decide) (by decide)) (RF.o hS_M (by decide) (by decide))  (fun a i f598 f602 f624 f670 f671 f672 f673 f680 f683 f684 => ((ju_c _ _ f598).trans (hF_M a i f598 f602 f624 f670 f671 f672 f673 f680 f683 f684))) (fun i g112 g122 g132 g134 g136 g137 g138 => ((ju_i _ _ g122).trans (hG_M i g112 g122 g132 g134 g136 g137 g138))) (by omega) (by omega) (MX.o hMX (by decide) (Or.inr (by decide))) (FRS.fr hFR (fun i => ((ju_c _ _ (by decide)).trans (rfl))) (fun i => ((ju_c _ _ (by decide)).trans (rfl))) (fun i => ((ju_c _ _ (by decide)).trans (rfl))) ((ju_i _ _ (zne (by decide))).trans (rfl)) (by omega)) (by rw [(ju_same _ _ _ _)] <;> omega) (AS.o hAS (by decide) (Or.inr (by decide))) (by omega) (by have z1 := (phi.le (ju M 598 122 (F - 1))).2; have z2 := (phi.le M).1; omega) (by rw [((ju_i _ _ (zne (by decide))).trans e14)] <;> omega) (by rw [(ju_same _ _ _ _)]; omega)
            · exact absurd (by omega) h127
          · refine jr.aload_n rfl rfl ?_
            refine jr.iconst rfl ?_
            refine jr.putf (i := 136) (x := 1) rfl rfl (nlt rfl) rfl (nlt rfl) rfl rfl rfl rfl rfl ?_
            refine jr.aload_n rfl rfl ?_
            refine jr.iload_n rfl rfl ?_
            refine jr.putf (i := 137) (x := k) rfl rfl (nlt rfl) rfl (nlt rfl) rfl rfl rfl rfl rfl ?_
            refine jr.aload_n rfl rfl ?_
            refine jr.iload rfl rfl ?_
            refine jr.putf (i := 138) (x := v) rfl rfl (nlt rfl) rfl (nlt rfl) rfl rfl rfl rfl rfl ?_
            have y15 : (ju (ju (ju (ju M 598 122 (F - 1)) 598 136 1) 598 137 k) 598 138 v) 598 122 = F - 1 := ((ju_i _ _ (zne (by decide))).trans ((ju_i _ _ (zne (by decide))).trans ((ju_i _ _ (zne (by decide))).trans (ju_same _ _ _ _))))
            have y16 : (ju (ju (ju (ju M 598 122 (F - 1)) 598 136 1) 598 137 k) 598 138 v) 598 136 = 1 := ((ju_i _ _ (zne (by decide))).trans ((ju_i _ _ (zne (by decide))).trans (ju_same _ _ _ _)))
            exact jr.vreturn rfl rfl (q _ (RI.u (RI.u (RI.u (RI.u hI_M (a := 598) (i := 122) (show (0 : Int) ≤ _ ∧ _ ≤ (9 : Int) from by omega)) (a := 598) (i := 136) (show (0 : Int) ≤ _ ∧ _ ≤ (1 : Int) from by omega)) (a := 598) (i := 137) (show (0 : Int) ≤ _ ∧ _ ≤ (2 : Int) from by omega)) (a := 598) (i := 138) (show (0 : Int) ≤ _ ∧ _ ≤ (8 : Int) from by omega)) (RH.o (RH.o (RH.o (RH.o hH_M (by decide) (by decide) (by decide)) (by decide) (by decide) (by decide)) (by decide) (by decide) (by decide)) (by decide) (by decide) (by decide)) (RF.o (RF.o (RF.o (RF.o hS_M (by decide) (by decide)) (by decide) (by decide)) (by decide) (by decide)) (by decide) (by decide))  (AS.o (AS.o (AS.o (AS.o hAS (by decide) (Or.inr (by decide))) (by decide) (Or.inr (by decide))) (by decide) (Or.inr (by decide))) (by decide) (Or.inr (by decide))) (Or.inl (((ju_i _ _ (zne (by decide))).trans ((ju_i _ _ (zne (by decide))).trans (ju_same _ _ _ _))))) (fun a i f598 f602 f624 f670 f671 f672 f673 f680 f683 f684 => ((ju_c _ _ f598).trans ((ju_c _ _ f598).trans ((ju_c _ _ f598).trans ((ju_c _ _ f598).trans (hF_M a i f598 f602 f624 f670 f671 f672 f673 f680 f683 f684)))))) (fun i g112 g122 g132 g134 g136 g137 g138 => ((ju_i _ _ g138).trans ((ju_i _ _ g137).trans ((ju_i _ _ g136).trans ((ju_i _ _ g122).trans (hG_M i g112 g122 g132 g134 g136 g137 g138)))))))
        · have sx51 : (0 : Int) ≤ bh := by omega
          clear h51
          refine jr.aload_n rfl rfl ?_
          refine jr.getf (i := 124) (v := .ref 680) rfl rfl (nlt rfl) rfl (nlt rfl) rfl rfl rfl rfl ?_
          refine jr.iload rfl rfl ?_
          refine jr.iconst rfl ?_
          refine jr.zast (i := (F - 1)) (x := 1) rfl (nlt rfl) rfl (Nat.le_of_ble_eq_true rfl) (by omega) (by omega) (j_zn (by omega)) ?_
          refine jr.aload_n rfl rfl ?_
          refine jr.getf (i := 127) (v := .ref 683) rfl rfl (nlt rfl) rfl (nlt rfl) rfl rfl rfl rfl ?_
          refine jr.iload rfl rfl ?_
          refine jr.iload_n rfl rfl ?_
          refine jr.iast (i := (F - 1)) (x := k) rfl (nlt rfl) rfl (Nat.le_of_ble_eq_true rfl) (by omega) (by omega) ?_
          refine jr.aload_n rfl rfl ?_
          refine jr.getf (i := 128) (v := .ref 684) rfl rfl (nlt rfl) rfl (nlt rfl) rfl rfl rfl rfl ?_
          refine jr.iload rfl rfl ?_
          refine jr.iload rfl rfl ?_
          refine jr.iast (i := (F - 1)) (x := v) rfl (nlt rfl) rfl (Nat.le_of_ble_eq_true rfl) (by omega) (by omega) ?_
          refine jr.aload_n rfl rfl ?_
          refine jr.aload_n rfl rfl ?_
          refine jr.getf (i := 85) (v := .ref 653) rfl rfl (nlt rfl) rfl (nlt rfl) rfl rfl rfl rfl ?_
          refine jr.iload rfl rfl ?_
          refine jr.iald (i := c) (x := bh) rfl (nlt rfl) rfl (Nat.le_of_ble_eq_true rfl) (by omega) (by omega) ((ju_c _ _ (by decide)).trans ((ju_c _ _ (by decide)).trans ((ju_c _ _ (by decide)).trans hbh))) ?_
          refine jr.putf (i := 132) (x := bh) rfl rfl (nlt rfl) rfl (nlt rfl) rfl rfl rfl rfl rfl ?_
          have y17 : (ju (ju (ju (ju M 680 (F - 1) 1) 683 (F - 1) k) 684 (F - 1) v) 598 132 bh) 598 122 = F := ((ju_i _ _ (zne (by decide))).trans ((ju_c _ _ (by decide)).trans ((ju_c _ _ (by decide)).trans ((ju_c _ _ (by decide)).trans hF))))
          obtain ⟨v18, e18⟩ : ∃ z, M 598 136 = z := ⟨_, rfl⟩
          have b18 : 0 ≤ v18 ∧ v18 ≤ 1 := by rw [← e18]; exact hI_M 598 136 (Nat.le_of_ble_eq_true rfl)
          have y19 : (ju (ju (ju (ju M 680 (F - 1) 1) 683 (F - 1) k) 684 (F - 1) v) 598 132 bh) 598 136 = v18 := ((ju_i _ _ (zne (by decide))).trans ((ju_c _ _ (by decide)).trans ((ju_c _ _ (by decide)).trans ((ju_c _ _ (by decide)).trans e18))))
          exact jr.vreturn rfl rfl (q _ (RI.u (RI.u (RI.u (RI.u hI_M (a := 680) (i := (F - 1)) (by rw [xri_row rfl rfl]; show (0 : Int) ≤ _ ∧ _ ≤ (1 : Int); omega)) (a := 683) (i := (F - 1)) (by rw [xri_row rfl rfl]; show (0 : Int) ≤ _ ∧ _ ≤ (2 : Int); omega)) (a := 684) (i := (F - 1)) (by rw [xri_row rfl rfl]; show (0 : Int) ≤ _ ∧ _ ≤ (8 : Int); omega)) (a := 598) (i := 132) (show (0 : Int) ≤ _ ∧ _ ≤ (2200 : Int) from by omega)) (RH.o (RH.o (RH.o (RH.o hH_M (by decide) (by decide) (by decide)) (by decide) (by decide) (by decide)) (by decide) (by decide) (by decide)) (by decide) (by decide) (by decide)) (RF.o (RF.o (RF.o (RF.o hS_M (by decide) (by decide)) (by decide) (by decide)) (by decide) (by decide)) (by decide) (by decide))  (AS.o (AS.o (AS.o (AS.o hAS (by decide) (Or.inl (by decide))) (by decide) (Or.inl (by decide))) (by decide) (Or.inl (by decide))) (by decide) (Or.inr (by decide))) (Or.inr ⟨by omega, (FRS.fr hFR (fun i => ((ju_c _ _ (by decide)).trans ((ju_c _ _ (by decide)).trans ((ju_c _ _ (by decide)).trans ((ju_c _ _ (by decide)).trans (rfl)))))) (fun i => ((ju_c _ _ (by decide)).trans ((ju_c _ _ (by decide)).trans ((ju_c _ _ (by decide)).trans ((ju_c _ _ (by decide)).trans (rfl)))))) (fun i => ((ju_c _ _ (by decide)).trans ((ju_c _ _ (by decide)).trans ((ju_c _ _ (by decide)).trans ((ju_c _ _ (by decide)).trans (rfl)))))) ((ju_i _ _ (zne (by decide))).trans ((ju_c _ _ (by decide)).trans ((ju_c _ _ (by decide)).trans ((ju_c _ _ (by decide)).trans (rfl))))) (by omega)), by omega, by omega, (by rw [show (ju (ju (ju (ju M 680 (F - 1) 1) 683 (F - 1) k) 684 (F - 1) v) 598 132 bh) 654 = M 654 from funext (fun i => ((ju_c _ _ (by decide)).trans ((ju_c _ _ (by decide)).trans ((ju_c _ _ (by decide)).trans ((ju_c _ _ (by decide)).trans (rfl)))))), (ju_same _ _ _ _)]; exact MX.re hMX (en.resolve_left (by omega))), (by have z1 := (phi.z (M := (ju (ju (ju (ju M 680 (F - 1) 1) 683 (F - 1) k) 684 (F - 1) v) 598 132 bh)) ((ju_i _ _ (zne (by decide))).trans ((ju_c _ _ (by decide)).trans ((ju_c _ _ (by decide)).trans ((ju_c _ _ (by decide)).trans hF)))) ((ju_c _ _ (by decide)).trans ((ju_c _ _ (by decide)).trans ((ju_c _ _ (by decide)).trans (ju_same _ _ _ _))))).2 (by decide); have z2 := (phi.z (M := M) hF hbe).1 (by omega); omega)⟩) (fun a i f598 f602 f624 f670 f671 f672 f673 f680 f683 f684 => ((ju_c _ _ f598).trans ((ju_c _ _ f684).trans ((ju_c _ _ f683).trans ((ju_c _ _ f680).trans (hF_M a i f598 f602 f624 f670 f671 f672 f673 f680 f683 f684)))))) (fun i g112 g122 g132 g134 g136 g137 g138 => ((ju_i _ _ g132).trans ((ju_c _ _ (by decide)).trans ((ju_c _ _ (by decide)).trans ((ju_c _ _ (by decide)).trans (hG_M i g112 g122 g132 g134 g136 g137 g138)))))))
    · refine jr.aload_n rfl rfl ?_
      refine jr.iload rfl rfl ?_
      refine jr_v rfl rfl (Or.inl rfl) rfl rfl (nlt rfl) rfl ⟨rfl, Nat.le_of_ble_eq_true rfl, Nat.le_of_ble_eq_true rfl⟩ rfl (jc.deep (r_giveBack hI_M hH_M hS_M  (by omega) hAS (by omega) (fun M20 hI_M20 hH_M20 hS_M20  w20_0 w20_1 w20_2 => ?_)) (Nat.le_of_ble_eq_true rfl))
      refine jr.aload_n rfl rfl ?_
      refine jr.getf (i := 124) (v := .ref 680) rfl rfl (nlt rfl) rfl (nlt rfl) rfl rfl rfl rfl ?_
      refine jr.iload rfl rfl ?_
      have e21 : M20 680 (F - 1) = be := ((w20_1 680 (F - 1) (nne rfl) (nne rfl) (nne rfl) (nne rfl) (nne rfl) (nne rfl) (nne rfl)).trans hbe)
      refine jr.zald (i := (F - 1)) (x := be) rfl (nlt rfl) rfl (Nat.le_of_ble_eq_true rfl) (by omega) (by omega) e21 ?_
      refine jr.if_ne rfl rfl (by first | (refine rgb (by assumption) ?_; exact rfl) | omega) (fun h40 => ?_) (fun h40 => ?_)
      · have sx40 : (1 : Int) ≤ be := by omega
        clear h40
        refine jr.aload_n rfl rfl ?_
        refine jr.dup rfl rfl ?_
        have e22 : M20 598 122 = F := ((w20_2 122 (zne rfl)).trans hF)
        refine jr.getf (i := 122) (x := F) (v := .int (Int32.ofInt (F))) rfl rfl (nlt rfl) rfl (nlt rfl) rfl rfl e22 rfl ?_
        refine jr.iconst rfl ?_
        refine jr.isub rfl ?_
        refine jr.putf (i := 122) (x := (F - 1)) rfl rfl (nlt rfl) rfl (nlt rfl) rfl rfl rfl rfl rfl ?_
        refine jr.aload_n rfl rfl ?_
        refine jr.getf (i := 122) (x := (F - 1)) (v := .int (Int32.ofInt (F - 1))) rfl rfl (nlt rfl) rfl (nlt rfl) rfl rfl (ju_same _ _ _ _) rfl ?_
        refine jr.if_ne rfl rfl (by first | (refine rgb (by assumption) ?_; exact rfl) | omega) (fun h105 => ?_) (fun h105 => ?_)
        · have sx105 : (1 : Int) ≤ (F - 1) := by omega
          clear h105
          refine jr.iload_n rfl rfl ?_
          refine jr.iconst rfl ?_
          refine jr.icmp_ne rfl rfl (by first | (refine rgb (by assumption) ?_; exact rfl) | omega) (rgl rfl) (fun h127 => ?_) (fun h127 => ?_)
          · exact absurd h127 (by omega)
          · refine jr.aload_n rfl rfl ?_
            refine jr.getf (i := 126) (v := .ref 682) rfl rfl (nlt rfl) rfl (nlt rfl) rfl rfl rfl rfl ?_
            refine jr.iload rfl rfl ?_
            obtain ⟨v23, e23⟩ : ∃ z, M 682 (F - 1) = z := ⟨_, rfl⟩
            have b23 : 0 ≤ v23 ∧ v23 ≤ 1 := by rw [← e23]; exact (by have q := hI_M 682 (F - 1) (Nat.le_of_ble_eq_true rfl); rw [xri_row rfl rfl] at q; exact q)
            have e24 : M20 682 (F - 1) = v23 := ((w20_1 682 (F - 1) (nne rfl) (nne rfl) (nne rfl) (nne rfl) (nne rfl) (nne rfl) (nne rfl)).trans e23)
            refine jr.zald (i := (F - 1)) (x := v23) rfl (nlt rfl) rfl (Nat.le_of_ble_eq_true rfl) (by omega) (by omega) ((ju_c _ _ (by decide)).trans e24) ?_
            refine jr.if_eq rfl rfl (by first | (refine rgb (by assumption) ?_; exact rfl) | omega) (fun h137 => ?_) (fun h137 => ?_)
            · refine jr.iconst rfl ?_
              refine jr.istore (ls' := [_, _, _, _, _, _]) rfl (nlt rfl) rfl ?_
              refine jr.iload_n rfl rfl ?_
              refine jr.if_eq rfl rfl (by first | (refine rgb (by assumption) ?_; exact rfl) | omega) (fun h155 => ?_) (fun h155 => ?_)
              · exact absurd h155 (by omega)
              · refine jr.iload rfl rfl ?_
                refine jr.if_eq rfl rfl (by first | exact rgl rfl | omega) (fun _ => ?_) (fun h => absurd (by decide) h)
                refine jr.goto rfl rfl ?_
                have y25 : (ju M20 598 122 (F - 1)) 598 122 = F - 1 := (ju_same _ _ _ _)
                obtain ⟨v26, e26⟩ : ∃ z, M 598 136 = z := ⟨_, rfl⟩
                have b26 : 0 ≤ v26 ∧ v26 ≤ 1 := by rw [← e26]; exact hI_M 598 136 (Nat.le_of_ble_eq_true rfl)
                have e27 : M20 598 136 = v26 := ((w20_2 136 (zne rfl)).trans e26)
                refine jr.pick (ls := [_, _, _]) [3, 4, 5] rfl rfl ?_
                exact ih (nM - 1) (by omega) (ju M20 598 122 (F - 1)) v k (RI.u hI_M20 (a := 598) (i := 122) (show (0 : Int) ≤ _ ∧ _ ≤ (9 : Int) from by omega)) (RH.o hH_M20 (by decide) (by decide) (by decide)) (RF.o hS_M20 (by decide) (by decide))  (fun a i f598 f602 f624 f670 f671 f672 f673 f680 f683 f684 => ((ju_c _ _ f598).trans ((w20_1 a i f598 f602 f624 f670 f671 f672 f673).trans (hF_M a i f598 f602 f624 f670 f671 f672 f673 f680 f683 f684)))) (fun i g112 g122 g132 g134 g136 g137 g138 => ((ju_i _ _ g122).trans ((w20_2 i g112).trans (hG_M i g112 g122 g132 g134 g136 g137 g138)))) (by omega) (by omega) (MX.o (MX.fr hMX (fun i => w20_1 652 i (nne rfl) (nne rfl) (nne rfl) (nne rfl) (nne rfl) (nne rfl) (nne rfl)) (fun i => w20_1 653 i (nne rfl) (nne rfl) (nne rfl) (nne rfl) (nne rfl) (nne rfl) (nne rfl)) (fun i => w20_1 654 i (nne rfl) (nne rfl) (nne rfl) (nne rfl) (nne rfl) (nne rfl) (nne rfl)) (fun i => w20_1 655 i (nne rfl) (nne rfl) (nne rfl) (nne rfl) (nne rfl) (nne rfl) (nne rfl)) (w20_2 82 (zne rfl))) (by decide) (Or.inr (by decide))) (FRS.fr hFR (fun i => ((ju_c _ _ (by decide)).trans ((w20_1 679 i (nne rfl) (nne rfl) (nne rfl) (nne rfl) (nne rfl) (nne rfl) (nne rfl)).trans (rfl)))) (fun i => ((ju_c _ _ (by decide)).trans ((w20_1 681 i (nne rfl) (nne rfl) (nne rfl) (nne rfl) (nne rfl) (nne rfl) (nne rfl)).trans (rfl)))) (fun i => ((ju_c _ _ (by decide)).trans ((w20_1 654 i (nne rfl) (nne rfl) (nne rfl) (nne rfl) (nne rfl) (nne rfl) (nne rfl)).trans (rfl)))) ((ju_i _ _ (zne (by decide))).trans ((w20_2 82 (zne rfl)).trans (rfl))) (by omega)) (by rw [(ju_same _ _ _ _)] <;> omega) (AS.o w20_0 (by decide) (Or.inr (by decide))) (by omega) (by have z1 := (phi.le (ju M20 598 122 (F - 1))).2; have z2 := (phi.le M).1; omega) (by rw [((ju_i _ _ (zne (by decide))).trans e27)] <;> omega) (by rw [(ju_same _ _ _ _)]; omega)
            · have sx137 : (1 : Int) ≤ v23 := by omega
              clear h137
              refine jr.iload rfl rfl ?_
              refine jr.bipush rfl (jbp _ (nlt rfl)) ?_
              refine jr.icmp_eq rfl rfl (by first | (refine rgb (by assumption) ?_; exact rfl) | omega) (rgl rfl) (fun h144 => ?_) (fun h144 => ?_)
              · refine jr.iconst rfl ?_
                refine jr.istore (ls' := [_, _, _, _, _, _]) rfl (nlt rfl) rfl ?_
                refine jr.iload_n rfl rfl ?_
                refine jr.if_eq rfl rfl (by first | (refine rgb (by assumption) ?_; exact rfl) | omega) (fun h155 => ?_) (fun h155 => ?_)
                · exact absurd h155 (by omega)
                · refine jr.iload rfl rfl ?_
                  refine jr.if_eq rfl rfl (by first | exact rgl rfl | omega) (fun _ => ?_) (fun h => absurd (by decide) h)
                  refine jr.goto rfl rfl ?_
                  have y28 : (ju M20 598 122 (F - 1)) 598 122 = F - 1 := (ju_same _ _ _ _)
                  obtain ⟨v29, e29⟩ : ∃ z, M 598 136 = z := ⟨_, rfl⟩
                  have b29 : 0 ≤ v29 ∧ v29 ≤ 1 := by rw [← e29]; exact hI_M 598 136 (Nat.le_of_ble_eq_true rfl)
                  have e30 : M20 598 136 = v29 := ((w20_2 136 (zne rfl)).trans e29)
                  refine jr.pick (ls := [_, _, _]) [3, 4, 5] rfl rfl ?_
                  exact ih (nM - 1) (by omega) (ju M20 598 122 (F - 1)) v k (RI.u hI_M20 (a := 598) (i := 122) (show (0 : Int) ≤ _ ∧ _ ≤ (9 : Int) from by omega)) (RH.o hH_M20 (by decide) (by decide) (by decide)) (RF.o hS_M20 (by decide) (by decide))  (fun a i f598 f602 f624 f670 f671 f672 f673 f680 f683 f684 => ((ju_c _ _ f598).trans ((w20_1 a i f598 f602 f624 f670 f671 f672 f673).trans (hF_M a i f598 f602 f624 f670 f671 f672 f673 f680 f683 f684)))) (fun i g112 g122 g132 g134 g136 g137 g138 => ((ju_i _ _ g122).trans ((w20_2 i g112).trans (hG_M i g112 g122 g132 g134 g136 g137 g138)))) (by omega) (by omega) (MX.o (MX.fr hMX (fun i => w20_1 652 i (nne rfl) (nne rfl) (nne rfl) (nne rfl) (nne rfl) (nne rfl) (nne rfl)) (fun i => w20_1 653 i (nne rfl) (nne rfl) (nne rfl) (nne rfl) (nne rfl) (nne rfl) (nne rfl)) (fun i => w20_1 654 i (nne rfl) (nne rfl) (nne rfl) (nne rfl) (nne rfl) (nne rfl) (nne rfl)) (fun i => w20_1 655 i (nne rfl) (nne rfl) (nne rfl) (nne rfl) (nne rfl) (nne rfl) (nne rfl)) (w20_2 82 (zne rfl))) (by decide) (Or.inr (by decide))) (FRS.fr hFR (fun i => ((ju_c _ _ (by decide)).trans ((w20_1 679 i (nne rfl) (nne rfl) (nne rfl) (nne rfl) (nne rfl) (nne rfl) (nne rfl)).trans (rfl)))) (fun i => ((ju_c _ _ (by decide)).trans ((w20_1 681 i (nne rfl) (nne rfl) (nne rfl) (nne rfl) (nne rfl) (nne rfl) (nne rfl)).trans (rfl)))) (fun i => ((ju_c _ _ (by decide)).trans ((w20_1 654 i (nne rfl) (nne rfl) (nne rfl) (nne rfl) (nne rfl) (nne rfl) (nne rfl)).trans (rfl)))) ((ju_i _ _ (zne (by decide))).trans ((w20_2 82 (zne rfl)).trans (rfl))) (by omega)) (by rw [(ju_same _ _ _ _)] <;> omega) (AS.o w20_0 (by decide) (Or.inr (by decide))) (by omega) (by have z1 := (phi.le (ju M20 598 122 (F - 1))).2; have z2 := (phi.le M).1; omega) (by rw [((ju_i _ _ (zne (by decide))).trans e30)] <;> omega) (by rw [(ju_same _ _ _ _)]; omega)
              · have sx144 : v ≤ (7 : Int) := by omega
                clear h144
                refine jr.iconst rfl ?_
                refine jr.goto rfl rfl ?_
                refine jr.istore (ls' := [_, _, _, _, _, _]) rfl (nlt rfl) rfl ?_
                refine jr.iload_n rfl rfl ?_
                refine jr.if_eq rfl rfl (by first | (refine rgb (by assumption) ?_; exact rfl) | omega) (fun h155 => ?_) (fun h155 => ?_)
                · exact absurd h155 (by omega)
                · refine jr.iload rfl rfl ?_
                  refine jr.if_eq rfl rfl (by first | exact rgl rfl | omega) (fun h => absurd h (by decide)) (fun _ => ?_)
                  refine jr.aload_n rfl rfl ?_
                  refine jr.iload rfl rfl ?_
                  refine jr.if_eq rfl rfl (by first | exact rgl rfl | omega) (fun h => absurd h (by decide)) (fun _ => ?_)
                  refine jr.iload rfl rfl ?_
                  refine jr.goto rfl rfl ?_
                  refine jr.putf (i := 134) (x := v) rfl rfl (nlt rfl) rfl (nlt rfl) rfl rfl rfl rfl rfl ?_
                  refine jr.aload_n rfl rfl ?_
                  refine jr.aload_n rfl rfl ?_
                  refine jr.getf (i := 125) (v := .ref 681) rfl rfl (nlt rfl) rfl (nlt rfl) rfl rfl rfl rfl ?_
                  refine jr.iload rfl rfl ?_
                  have e31 : M20 681 (F - 1) = bk := ((w20_1 681 (F - 1) (nne rfl) (nne rfl) (nne rfl) (nne rfl) (nne rfl) (nne rfl) (nne rfl)).trans hbk)
                  refine jr.iald (i := (F - 1)) (x := bk) rfl (nlt rfl) rfl (Nat.le_of_ble_eq_true rfl) (by omega) (by omega) ((ju_c _ _ (by decide)).trans ((ju_c _ _ (by decide)).trans e31)) ?_
                  refine jr.putf (i := 132) (x := bk) rfl rfl (nlt rfl) rfl (nlt rfl) rfl rfl rfl rfl rfl ?_
                  have y32 : (ju (ju (ju M20 598 122 (F - 1)) 598 134 v) 598 132 bk) 598 122 = F - 1 := ((ju_i _ _ (zne (by decide))).trans ((ju_i _ _ (zne (by decide))).trans (ju_same _ _ _ _)))
                  obtain ⟨v33, e33⟩ : ∃ z, M 598 136 = z := ⟨_, rfl⟩
                  have b33 : 0 ≤ v33 ∧ v33 ≤ 1 := by rw [← e33]; exact hI_M 598 136 (Nat.le_of_ble_eq_true rfl)
                  have e34 : M20 598 136 = v33 := ((w20_2 136 (zne rfl)).trans e33)
                  have y35 : (ju (ju (ju M20 598 122 (F - 1)) 598 134 v) 598 132 bk) 598 136 = v33 := ((ju_i _ _ (zne (by decide))).trans ((ju_i _ _ (zne (by decide))).trans ((ju_i _ _ (zne (by decide))).trans e34)))
                  exact jr.vreturn rfl rfl (q _ (RI.u (RI.u (RI.u hI_M20 (a := 598) (i := 122) (show (0 : Int) ≤ _ ∧ _ ≤ (9 : Int) from by omega)) (a := 598) (i := 134) (show (0 : Int) ≤ _ ∧ _ ≤ (8 : Int) from by omega)) (a := 598) (i := 132) (show (0 : Int) ≤ _ ∧ _ ≤ (2200 : Int) from by omega)) (RH.o (RH.o (RH.o hH_M20 (by decide) (by decide) (by decide)) (by decide) (by decide) (by decide)) (by decide) (by decide) (by decide)) (RF.o (RF.o (RF.o hS_M20 (by decide) (by decide)) (by decide) (by decide)) (by decide) (by decide))  (AS.o (AS.o (AS.o w20_0 (by decide) (Or.inr (by decide))) (by decide) (Or.inr (by decide))) (by decide) (Or.inr (by decide))) (Or.inr ⟨by omega, (FRS.fr hFR (fun i => ((ju_c _ _ (by decide)).trans ((ju_c _ _ (by decide)).trans ((ju_c _ _ (by decide)).trans ((w20_1 679 i (nne rfl) (nne rfl) (nne rfl) (nne rfl) (nne rfl) (nne rfl) (nne rfl)).trans (rfl)))))) (fun i => ((ju_c _ _ (by decide)).trans ((ju_c _ _ (by decide)).trans ((ju_c _ _ (by decide)).trans ((w20_1 681 i (nne rfl) (nne rfl) (nne rfl) (nne rfl) (nne rfl) (nne rfl) (nne rfl)).trans (rfl)))))) (fun i => ((ju_c _ _ (by decide)).trans ((ju_c _ _ (by decide)).trans ((ju_c _ _ (by decide)).trans ((w20_1 654 i (nne rfl) (nne rfl) (nne rfl) (nne rfl) (nne rfl) (nne rfl) (nne rfl)).trans (rfl)))))) ((ju_i _ _ (zne (by decide))).trans ((ju_i _ _ (zne (by decide))).trans ((ju_i _ _ (zne (by decide))).trans ((w20_2 82 (zne rfl)).trans (rfl))))) (by omega)), by omega, by omega, (by rw [show (ju (ju (ju M20 598 122 (F - 1)) 598 134 v) 598 132 bk) 654 = M 654 from funext (fun i => ((ju_c _ _ (by decide)).trans ((ju_c _ _ (by decide)).trans ((ju_c _ _ (by decide)).trans ((w20_1 654 i (nne rfl) (nne rfl) (nne rfl) (nne rfl) (nne rfl) (nne rfl) (nne rfl)).trans (rfl)))))), (ju_same _ _ _ _)]; exact fr0.2.2 (by omega)), (by have z1 := (phi.le (ju (ju (ju M20 598 122 (F - 1)) 598 134 v) 598 132 bk)).2; have z2 := (phi.le M).1; omega)⟩) (fun a i f598 f602 f624 f670 f671 f672 f673 f680 f683 f684 => ((ju_c _ _ f598).trans ((ju_c _ _ f598).trans ((ju_c _ _ f598).trans ((w20_1 a i f598 f602 f624 f670 f671 f672 f673).trans (hF_M a i f598 f602 f624 f670 f671 f672 f673 f680 f683 f684)))))) (fun i g112 g122 g132 g134 g136 g137 g138 => ((ju_i _ _ g132).trans ((ju_i _ _ g134).trans ((ju_i _ _ g122).trans ((w20_2 i g112).trans (hG_M i g112 g122 g132 g134 g136 g137 g138)))))))
        · refine jr.aload_n rfl rfl ?_
          refine jr.iconst rfl ?_
          refine jr.putf (i := 136) (x := 1) rfl rfl (nlt rfl) rfl (nlt rfl) rfl rfl rfl rfl rfl ?_
          refine jr.aload_n rfl rfl ?_
          refine jr.iload_n rfl rfl ?_
          refine jr.putf (i := 137) (x := k) rfl rfl (nlt rfl) rfl (nlt rfl) rfl rfl rfl rfl rfl ?_
          refine jr.aload_n rfl rfl ?_
          refine jr.iload rfl rfl ?_
          refine jr.putf (i := 138) (x := v) rfl rfl (nlt rfl) rfl (nlt rfl) rfl rfl rfl rfl rfl ?_
          have y36 : (ju (ju (ju (ju M20 598 122 (F - 1)) 598 136 1) 598 137 k) 598 138 v) 598 122 = F - 1 := ((ju_i _ _ (zne (by decide))).trans ((ju_i _ _ (zne (by decide))).trans ((ju_i _ _ (zne (by decide))).trans (ju_same _ _ _ _))))
          have y37 : (ju (ju (ju (ju M20 598 122 (F - 1)) 598 136 1) 598 137 k) 598 138 v) 598 136 = 1 := ((ju_i _ _ (zne (by decide))).trans ((ju_i _ _ (zne (by decide))).trans (ju_same _ _ _ _)))
          exact jr.vreturn rfl rfl (q _ (RI.u (RI.u (RI.u (RI.u hI_M20 (a := 598) (i := 122) (show (0 : Int) ≤ _ ∧ _ ≤ (9 : Int) from by omega)) (a := 598) (i := 136) (show (0 : Int) ≤ _ ∧ _ ≤ (1 : Int) from by omega)) (a := 598) (i := 137) (show (0 : Int) ≤ _ ∧ _ ≤ (2 : Int) from by omega)) (a := 598) (i := 138) (show (0 : Int) ≤ _ ∧ _ ≤ (8 : Int) from by omega)) (RH.o (RH.o (RH.o (RH.o hH_M20 (by decide) (by decide) (by decide)) (by decide) (by decide) (by decide)) (by decide) (by decide) (by decide)) (by decide) (by decide) (by decide)) (RF.o (RF.o (RF.o (RF.o hS_M20 (by decide) (by decide)) (by decide) (by decide)) (by decide) (by decide)) (by decide) (by decide))  (AS.o (AS.o (AS.o (AS.o w20_0 (by decide) (Or.inr (by decide))) (by decide) (Or.inr (by decide))) (by decide) (Or.inr (by decide))) (by decide) (Or.inr (by decide))) (Or.inl (((ju_i _ _ (zne (by decide))).trans ((ju_i _ _ (zne (by decide))).trans (ju_same _ _ _ _))))) (fun a i f598 f602 f624 f670 f671 f672 f673 f680 f683 f684 => ((ju_c _ _ f598).trans ((ju_c _ _ f598).trans ((ju_c _ _ f598).trans ((ju_c _ _ f598).trans ((w20_1 a i f598 f602 f624 f670 f671 f672 f673).trans (hF_M a i f598 f602 f624 f670 f671 f672 f673 f680 f683 f684))))))) (fun i g112 g122 g132 g134 g136 g137 g138 => ((ju_i _ _ g138).trans ((ju_i _ _ g137).trans ((ju_i _ _ g136).trans ((ju_i _ _ g122).trans ((w20_2 i g112).trans (hG_M i g112 g122 g132 g134 g136 g137 g138))))))))
      · refine jr.aload_n rfl rfl ?_
        refine jr.getf (i := 85) (v := .ref 653) rfl rfl (nlt rfl) rfl (nlt rfl) rfl rfl rfl rfl ?_
        refine jr.iload rfl rfl ?_
        have e38 : M20 653 c = bh := ((w20_1 653 c (nne rfl) (nne rfl) (nne rfl) (nne rfl) (nne rfl) (nne rfl) (nne rfl)).trans hbh)
        refine jr.iald (i := c) (x := bh) rfl (nlt rfl) rfl (Nat.le_of_ble_eq_true rfl) (by omega) (by omega) e38 ?_
        refine jr.iconst rfl ?_
        refine jr.icmp_eq rfl rfl (by first | (refine rgb (by assumption) ?_; exact rfl) | omega) (rgl rfl) (fun h51 => ?_) (fun h51 => ?_)
        · refine jr.aload_n rfl rfl ?_
          refine jr.dup rfl rfl ?_
          have e39 : M20 598 122 = F := ((w20_2 122 (zne rfl)).trans hF)
          refine jr.getf (i := 122) (x := F) (v := .int (Int32.ofInt (F))) rfl rfl (nlt rfl) rfl (nlt rfl) rfl rfl e39 rfl ?_
          refine jr.iconst rfl ?_
          refine jr.isub rfl ?_
          refine jr.putf (i := 122) (x := (F - 1)) rfl rfl (nlt rfl) rfl (nlt rfl) rfl rfl rfl rfl rfl ?_
          refine jr.aload_n rfl rfl ?_
          refine jr.getf (i := 122) (x := (F - 1)) (v := .int (Int32.ofInt (F - 1))) rfl rfl (nlt rfl) rfl (nlt rfl) rfl rfl (ju_same _ _ _ _) rfl ?_
          refine jr.if_ne rfl rfl (by first | (refine rgb (by assumption) ?_; exact rfl) | omega) (fun h105 => ?_) (fun h105 => ?_)
          · have sx105 : (1 : Int) ≤ (F - 1) := by omega
            clear h105
            refine jr.iload_n rfl rfl ?_
            refine jr.iconst rfl ?_
            refine jr.icmp_ne rfl rfl (by first | (refine rgb (by assumption) ?_; exact rfl) | omega) (rgl rfl) (fun h127 => ?_) (fun h127 => ?_)
            · exact absurd h127 (by omega)
            · refine jr.aload_n rfl rfl ?_
              refine jr.getf (i := 126) (v := .ref 682) rfl rfl (nlt rfl) rfl (nlt rfl) rfl rfl rfl rfl ?_
              refine jr.iload rfl rfl ?_
              obtain ⟨v40, e40⟩ : ∃ z, M 682 (F - 1) = z := ⟨_, rfl⟩
              have b40 : 0 ≤ v40 ∧ v40 ≤ 1 := by rw [← e40]; exact (by have q := hI_M 682 (F - 1) (Nat.le_of_ble_eq_true rfl); rw [xri_row rfl rfl] at q; exact q)
              have e41 : M20 682 (F - 1) = v40 := ((w20_1 682 (F - 1) (nne rfl) (nne rfl) (nne rfl) (nne rfl) (nne rfl) (nne rfl) (nne rfl)).trans e40)
              refine jr.zald (i := (F - 1)) (x := v40) rfl (nlt rfl) rfl (Nat.le_of_ble_eq_true rfl) (by omega) (by omega) ((ju_c _ _ (by decide)).trans e41) ?_
              refine jr.if_eq rfl rfl (by first | (refine rgb (by assumption) ?_; exact rfl) | omega) (fun h137 => ?_) (fun h137 => ?_)
              · refine jr.iconst rfl ?_
                refine jr.istore (ls' := [_, _, _, _, _, _]) rfl (nlt rfl) rfl ?_
                refine jr.iload_n rfl rfl ?_
                refine jr.if_eq rfl rfl (by first | (refine rgb (by assumption) ?_; exact rfl) | omega) (fun h155 => ?_) (fun h155 => ?_)
                · exact absurd h155 (by omega)
                · refine jr.iload rfl rfl ?_
                  refine jr.if_eq rfl rfl (by first | exact rgl rfl | omega) (fun _ => ?_) (fun h => absurd (by decide) h)
                  refine jr.goto rfl rfl ?_
                  have y42 : (ju M20 598 122 (F - 1)) 598 122 = F - 1 := (ju_same _ _ _ _)
                  obtain ⟨v43, e43⟩ : ∃ z, M 598 136 = z := ⟨_, rfl⟩
                  have b43 : 0 ≤ v43 ∧ v43 ≤ 1 := by rw [← e43]; exact hI_M 598 136 (Nat.le_of_ble_eq_true rfl)
                  have e44 : M20 598 136 = v43 := ((w20_2 136 (zne rfl)).trans e43)
                  refine jr.pick (ls := [_, _, _]) [3, 4, 5] rfl rfl ?_
                  exact ih (nM - 1) (by omega) (ju M20 598 122 (F - 1)) v k (RI.u hI_M20 (a := 598) (i := 122) (show (0 : Int) ≤ _ ∧ _ ≤ (9 : Int) from by omega)) (RH.o hH_M20 (by decide) (by decide) (by decide)) (RF.o hS_M20 (by decide) (by decide))  (fun a i f598 f602 f624 f670 f671 f672 f673 f680 f683 f684 => ((ju_c _ _ f598).trans ((w20_1 a i f598 f602 f624 f670 f671 f672 f673).trans (hF_M a i f598 f602 f624 f670 f671 f672 f673 f680 f683 f684)))) (fun i g112 g122 g132 g134 g136 g137 g138 => ((ju_i _ _ g122).trans ((w20_2 i g112).trans (hG_M i g112 g122 g132 g134 g136 g137 g138)))) (by omega) (by omega) (MX.o (MX.fr hMX (fun i => w20_1 652 i (nne rfl) (nne rfl) (nne rfl) (nne rfl) (nne rfl) (nne rfl) (nne rfl)) (fun i => w20_1 653 i (nne rfl) (nne rfl) (nne rfl) (nne rfl) (nne rfl) (nne rfl) (nne rfl)) (fun i => w20_1 654 i (nne rfl) (nne rfl) (nne rfl) (nne rfl) (nne rfl) (nne rfl) (nne rfl)) (fun i => w20_1 655 i (nne rfl) (nne rfl) (nne rfl) (nne rfl) (nne rfl) (nne rfl) (nne rfl)) (w20_2 82 (zne rfl))) (by decide) (Or.inr (by decide))) (FRS.fr hFR (fun i => ((ju_c _ _ (by decide)).trans ((w20_1 679 i (nne rfl) (nne rfl) (nne rfl) (nne rfl) (nne rfl) (nne rfl) (nne rfl)).trans (rfl)))) (fun i => ((ju_c _ _ (by decide)).trans ((w20_1 681 i (nne rfl) (nne rfl) (nne rfl) (nne rfl) (nne rfl) (nne rfl) (nne rfl)).trans (rfl)))) (fun i => ((ju_c _ _ (by decide)).trans ((w20_1 654 i (nne rfl) (nne rfl) (nne rfl) (nne rfl) (nne rfl) (nne rfl) (nne rfl)).trans (rfl)))) ((ju_i _ _ (zne (by decide))).trans ((w20_2 82 (zne rfl)).trans (rfl))) (by omega)) (by rw [(ju_same _ _ _ _)] <;> omega) (AS.o w20_0 (by decide) (Or.inr (by decide))) (by omega) (by have z1 := (phi.le (ju M20 598 122 (F - 1))).2; have z2 := (phi.le M).1; omega) (by rw [((ju_i _ _ (zne (by decide))).trans e44)] <;> omega) (by rw [(ju_same _ _ _ _)]; omega)
              · have sx137 : (1 : Int) ≤ v40 := by omega
                clear h137
                refine jr.iload rfl rfl ?_
                refine jr.bipush rfl (jbp _ (nlt rfl)) ?_
                refine jr.icmp_eq rfl rfl (by first | (refine rgb (by assumption) ?_; exact rfl) | omega) (rgl rfl) (fun h144 => ?_) (fun h144 => ?_)
                · refine jr.iconst rfl ?_
                  refine jr.istore (ls' := [_, _, _, _, _, _]) rfl (nlt rfl) rfl ?_
                  refine jr.iload_n rfl rfl ?_
                  refine jr.if_eq rfl rfl (by first | (refine rgb (by assumption) ?_; exact rfl) | omega) (fun h155 => ?_) (fun h155 => ?_)
                  · exact absurd h155 (by omega)
                  · refine jr.iload rfl rfl ?_
                    refine jr.if_eq rfl rfl (by first | exact rgl rfl | omega) (fun _ => ?_) (fun h => absurd (by decide) h)
                    refine jr.goto rfl rfl ?_
                    have y45 : (ju M20 598 122 (F - 1)) 598 122 = F - 1 := (ju_same _ _ _ _)
                    obtain ⟨v46, e46⟩ : ∃ z, M 598 136 = z := ⟨_, rfl⟩
                    have b46 : 0 ≤ v46 ∧ v46 ≤ 1 := by rw [← e46]; exact hI_M 598 136 (Nat.le_of_ble_eq_true rfl)
                    have e47 : M20 598 136 = v46 := ((w20_2 136 (zne rfl)).trans e46)
                    refine jr.pick (ls := [_, _, _]) [3, 4, 5] rfl rfl ?_
                    exact ih (nM - 1) (by omega) (ju M20 598 122 (F - 1)) v k (RI.u hI_M20 (a := 598) (i := 122) (show (0 : Int) ≤ _ ∧ _ ≤ (9 : Int) from by omega)) (RH.o hH_M20 (by decide) (by decide) (by decide)) (RF.o hS_M20 (by decide) (by decide))  (fun a i f598 f602 f624 f670 f671 f672 f673 f680 f683 f684 => ((ju_c _ _ f598).trans ((w20_1 a i f598 f602 f624 f670 f671 f672 f673).trans (hF_M a i f598 f602 f624 f670 f671 f672 f673 f680 f683 f684)))) (fun i g112 g122 g132 g134 g136 g137 g138 => ((ju_i _ _ g122).trans ((w20_2 i g112).trans (hG_M i g112 g122 g132 g134 g136 g137 g138)))) (by omega) (by omega) (MX.o (MX.fr hMX (fun i => w20_1 652 i (nne rfl) (nne rfl) (nne rfl) (nne rfl) (nne rfl) (nne rfl) (nne rfl)) (fun i => w20_1 653 i (nne rfl) (nne rfl) (nne rfl) (nne rfl) (nne rfl) (nne rfl) (nne rfl)) (fun i => w20_1 654 i (nne rfl) (nne rfl) (nne rfl) (nne rfl) (nne rfl) (nne rfl) (nne rfl)) (fun i => w20_1 655 i (nne rfl) (nne rfl) (nne rfl) (nne rfl) (nne rfl) (nne rfl) (nne rfl)) (w20_2 82 (zne rfl))) (by decide) (Or.inr (by decide))) (FRS.fr hFR (fun i => ((ju_c _ _ (by decide)).trans ((w20_1 679 i (nne rfl) (nne rfl) (nne rfl) (nne rfl) (nne rfl) (nne rfl) (nne rfl)).trans (rfl)))) (fun i => ((ju_c _ _ (by decide)).trans ((w20_1 681 i (nne rfl) (nne rfl) (nne rfl) (nne rfl) (nne rfl) (nne rfl) (nne rfl)).trans (rfl)))) (fun i => ((ju_c _ _ (by decide)).trans ((w20_1 654 i (nne rfl) (nne rfl) (nne rfl) (nne rfl) (nne rfl) (nne rfl) (nne rfl)).trans (rfl)))) ((ju_i _ _ (zne (by decide))).trans ((w20_2 82 (zne rfl)).trans (rfl))) (by omega)) (by rw [(ju_same _ _ _ _)] <;> omega) (AS.o w20_0 (by decide) (Or.inr (by decide))) (by omega) (by have z1 := (phi.le (ju M20 598 122 (F - 1))).2; have z2 := (phi.le M).1; omega) (by rw [((ju_i _ _ (zne (by decide))).trans e47)] <;> omega) (by rw [(ju_same _ _ _ _)]; omega)
                · have sx144 : v ≤ (7 : Int) := by omega
                  clear h144
                  refine jr.iconst rfl ?_
                  refine jr.goto rfl rfl ?_
                  refine jr.istore (ls' := [_, _, _, _, _, _]) rfl (nlt rfl) rfl ?_
                  refine jr.iload_n rfl rfl ?_
                  refine jr.if_eq rfl rfl (by first | (refine rgb (by assumption) ?_; exact rfl) | omega) (fun h155 => ?_) (fun h155 => ?_)
                  · exact absurd h155 (by omega)
                  · refine jr.iload rfl rfl ?_
                    refine jr.if_eq rfl rfl (by first | exact rgl rfl | omega) (fun h => absurd h (by decide)) (fun _ => ?_)
                    refine jr.aload_n rfl rfl ?_
                    refine jr.iload rfl rfl ?_
                    refine jr.if_eq rfl rfl (by first | exact rgl rfl | omega) (fun h => absurd h (by decide)) (fun _ => ?_)
                    refine jr.iload rfl rfl ?_
                    refine jr.goto rfl rfl ?_
                    refine jr.putf (i := 134) (x := v) rfl rfl (nlt rfl) rfl (nlt rfl) rfl rfl rfl rfl rfl ?_
                    refine jr.aload_n rfl rfl ?_
                    refine jr.aload_n rfl rfl ?_
                    refine jr.getf (i := 125) (v := .ref 681) rfl rfl (nlt rfl) rfl (nlt rfl) rfl rfl rfl rfl ?_
                    refine jr.iload rfl rfl ?_
                    have e48 : M20 681 (F - 1) = bk := ((w20_1 681 (F - 1) (nne rfl) (nne rfl) (nne rfl) (nne rfl) (nne rfl) (nne rfl) (nne rfl)).trans hbk)
                    refine jr.iald (i := (F - 1)) (x := bk) rfl (nlt rfl) rfl (Nat.le_of_ble_eq_true rfl) (by omega) (by omega) ((ju_c _ _ (by decide)).trans ((ju_c _ _ (by decide)).trans e48)) ?_
                    refine jr.putf (i := 132) (x := bk) rfl rfl (nlt rfl) rfl (nlt rfl) rfl rfl rfl rfl rfl ?_
                    have y49 : (ju (ju (ju M20 598 122 (F - 1)) 598 134 v) 598 132 bk) 598 122 = F - 1 := ((ju_i _ _ (zne (by decide))).trans ((ju_i _ _ (zne (by decide))).trans (ju_same _ _ _ _)))
                    obtain ⟨v50, e50⟩ : ∃ z, M 598 136 = z := ⟨_, rfl⟩
                    have b50 : 0 ≤ v50 ∧ v50 ≤ 1 := by rw [← e50]; exact hI_M 598 136 (Nat.le_of_ble_eq_true rfl)
                    have e51 : M20 598 136 = v50 := ((w20_2 136 (zne rfl)).trans e50)
                    have y52 : (ju (ju (ju M20 598 122 (F - 1)) 598 134 v) 598 132 bk) 598 136 = v50 := ((ju_i _ _ (zne (by decide))).trans ((ju_i _ _ (zne (by decide))).trans ((ju_i _ _ (zne (by decide))).trans e51)))
                    exact jr.vreturn rfl rfl (q _ (RI.u (RI.u (RI.u hI_M20 (a := 598) (i := 122) (show (0 : Int) ≤ _ ∧ _ ≤ (9 : Int) from by omega)) (a := 598) (i := 134) (show (0 : Int) ≤ _ ∧ _ ≤ (8 : Int) from by omega)) (a := 598) (i := 132) (show (0 : Int) ≤ _ ∧ _ ≤ (2200 : Int) from by omega)) (RH.o (RH.o (RH.o hH_M20 (by decide) (by decide) (by decide)) (by decide) (by decide) (by decide)) (by decide) (by decide) (by decide)) (RF.o (RF.o (RF.o hS_M20 (by decide) (by decide)) (by decide) (by decide)) (by decide) (by decide))  (AS.o (AS.o (AS.o w20_0 (by decide) (Or.inr (by decide))) (by decide) (Or.inr (by decide))) (by decide) (Or.inr (by decide))) (Or.inr ⟨by omega, (FRS.fr hFR (fun i => ((ju_c _ _ (by decide)).trans ((ju_c _ _ (by decide)).trans ((ju_c _ _ (by decide)).trans ((w20_1 679 i (nne rfl) (nne rfl) (nne rfl) (nne rfl) (nne rfl) (nne rfl) (nne rfl)).trans (rfl)))))) (fun i => ((ju_c _ _ (by decide)).trans ((ju_c _ _ (by decide)).trans ((ju_c _ _ (by decide)).trans ((w20_1 681 i (nne rfl) (nne rfl) (nne rfl) (nne rfl) (nne rfl) (nne rfl) (nne rfl)).trans (rfl)))))) (fun i => ((ju_c _ _ (by decide)).trans ((ju_c _ _ (by decide)).trans ((ju_c _ _ (by decide)).trans ((w20_1 654 i (nne rfl) (nne rfl) (nne rfl) (nne rfl) (nne rfl) (nne rfl) (nne rfl)).trans (rfl)))))) ((ju_i _ _ (zne (by decide))).trans ((ju_i _ _ (zne (by decide))).trans ((ju_i _ _ (zne (by decide))).trans ((w20_2 82 (zne rfl)).trans (rfl))))) (by omega)), by omega, by omega, (by rw [show (ju (ju (ju M20 598 122 (F - 1)) 598 134 v) 598 132 bk) 654 = M 654 from funext (fun i => ((ju_c _ _ (by decide)).trans ((ju_c _ _ (by decide)).trans ((ju_c _ _ (by decide)).trans ((w20_1 654 i (nne rfl) (nne rfl) (nne rfl) (nne rfl) (nne rfl) (nne rfl) (nne rfl)).trans (rfl)))))), (ju_same _ _ _ _)]; exact fr0.2.2 (by omega)), (by have z1 := (phi.le (ju (ju (ju M20 598 122 (F - 1)) 598 134 v) 598 132 bk)).2; have z2 := (phi.le M).1; omega)⟩) (fun a i f598 f602 f624 f670 f671 f672 f673 f680 f683 f684 => ((ju_c _ _ f598).trans ((ju_c _ _ f598).trans ((ju_c _ _ f598).trans ((w20_1 a i f598 f602 f624 f670 f671 f672 f673).trans (hF_M a i f598 f602 f624 f670 f671 f672 f673 f680 f683 f684)))))) (fun i g112 g122 g132 g134 g136 g137 g138 => ((ju_i _ _ g132).trans ((ju_i _ _ g134).trans ((ju_i _ _ g122).trans ((w20_2 i g112).trans (hG_M i g112 g122 g132 g134 g136 g137 g138)))))))
          · refine jr.aload_n rfl rfl ?_
            refine jr.iconst rfl ?_
            refine jr.putf (i := 136) (x := 1) rfl rfl (nlt rfl) rfl (nlt rfl) rfl rfl rfl rfl rfl ?_
            refine jr.aload_n rfl rfl ?_
            refine jr.iload_n rfl rfl ?_
            refine jr.putf (i := 137) (x := k) rfl rfl (nlt rfl) rfl (nlt rfl) rfl rfl rfl rfl rfl ?_
            refine jr.aload_n rfl rfl ?_
            refine jr.iload rfl rfl ?_
            refine jr.putf (i := 138) (x := v) rfl rfl (nlt rfl) rfl (nlt rfl) rfl rfl rfl rfl rfl ?_
            have y53 : (ju (ju (ju (ju M20 598 122 (F - 1)) 598 136 1) 598 137 k) 598 138 v) 598 122 = F - 1 := ((ju_i _ _ (zne (by decide))).trans ((ju_i _ _ (zne (by decide))).trans ((ju_i _ _ (zne (by decide))).trans (ju_same _ _ _ _))))
            have y54 : (ju (ju (ju (ju M20 598 122 (F - 1)) 598 136 1) 598 137 k) 598 138 v) 598 136 = 1 := ((ju_i _ _ (zne (by decide))).trans ((ju_i _ _ (zne (by decide))).trans (ju_same _ _ _ _)))
            exact jr.vreturn rfl rfl (q _ (RI.u (RI.u (RI.u (RI.u hI_M20 (a := 598) (i := 122) (show (0 : Int) ≤ _ ∧ _ ≤ (9 : Int) from by omega)) (a := 598) (i := 136) (show (0 : Int) ≤ _ ∧ _ ≤ (1 : Int) from by omega)) (a := 598) (i := 137) (show (0 : Int) ≤ _ ∧ _ ≤ (2 : Int) from by omega)) (a := 598) (i := 138) (show (0 : Int) ≤ _ ∧ _ ≤ (8 : Int) from by omega)) (RH.o (RH.o (RH.o (RH.o hH_M20 (by decide) (by decide) (by decide)) (by decide) (by decide) (by decide)) (by decide) (by decide) (by decide)) (by decide) (by decide) (by decide)) (RF.o (RF.o (RF.o (RF.o hS_M20 (by decide) (by decide)) (by decide) (by decide)) (by decide) (by decide)) (by decide) (by decide))  (AS.o (AS.o (AS.o (AS.o w20_0 (by decide) (Or.inr (by decide))) (by decide) (Or.inr (by decide))) (by decide) (Or.inr (by decide))) (by decide) (Or.inr (by decide))) (Or.inl (((ju_i _ _ (zne (by decide))).trans ((ju_i _ _ (zne (by decide))).trans (ju_same _ _ _ _))))) (fun a i f598 f602 f624 f670 f671 f672 f673 f680 f683 f684 => ((ju_c _ _ f598).trans ((ju_c _ _ f598).trans ((ju_c _ _ f598).trans ((ju_c _ _ f598).trans ((w20_1 a i f598 f602 f624 f670 f671 f672 f673).trans (hF_M a i f598 f602 f624 f670 f671 f672 f673 f680 f683 f684))))))) (fun i g112 g122 g132 g134 g136 g137 g138 => ((ju_i _ _ g138).trans ((ju_i _ _ g137).trans ((ju_i _ _ g136).trans ((ju_i _ _ g122).trans ((w20_2 i g112).trans (hG_M i g112 g122 g132 g134 g136 g137 g138))))))))
        · have sx51 : (0 : Int) ≤ bh := by omega
          clear h51
          refine jr.aload_n rfl rfl ?_
          refine jr.getf (i := 124) (v := .ref 680) rfl rfl (nlt rfl) rfl (nlt rfl) rfl rfl rfl rfl ?_
          refine jr.iload rfl rfl ?_
          refine jr.iconst rfl ?_
          refine jr.zast (i := (F - 1)) (x := 1) rfl (nlt rfl) rfl (Nat.le_of_ble_eq_true rfl) (by omega) (by omega) (j_zn (by omega)) ?_
          refine jr.aload_n rfl rfl ?_
          refine jr.getf (i := 127) (v := .ref 683) rfl rfl (nlt rfl) rfl (nlt rfl) rfl rfl rfl rfl ?_
          refine jr.iload rfl rfl ?_
          refine jr.iload_n rfl rfl ?_
          refine jr.iast (i := (F - 1)) (x := k) rfl (nlt rfl) rfl (Nat.le_of_ble_eq_true rfl) (by omega) (by omega) ?_
          refine jr.aload_n rfl rfl ?_
          refine jr.getf (i := 128) (v := .ref 684) rfl rfl (nlt rfl) rfl (nlt rfl) rfl rfl rfl rfl ?_
          refine jr.iload rfl rfl ?_
          refine jr.iload rfl rfl ?_
          refine jr.iast (i := (F - 1)) (x := v) rfl (nlt rfl) rfl (Nat.le_of_ble_eq_true rfl) (by omega) (by omega) ?_
          refine jr.aload_n rfl rfl ?_
          refine jr.aload_n rfl rfl ?_
          refine jr.getf (i := 85) (v := .ref 653) rfl rfl (nlt rfl) rfl (nlt rfl) rfl rfl rfl rfl ?_
          refine jr.iload rfl rfl ?_
          refine jr.iald (i := c) (x := bh) rfl (nlt rfl) rfl (Nat.le_of_ble_eq_true rfl) (by omega) (by omega) ((ju_c _ _ (by decide)).trans ((ju_c _ _ (by decide)).trans ((ju_c _ _ (by decide)).trans e38))) ?_
          refine jr.putf (i := 132) (x := bh) rfl rfl (nlt rfl) rfl (nlt rfl) rfl rfl rfl rfl rfl ?_
          have e55 : M20 598 122 = F := ((w20_2 122 (zne rfl)).trans hF)
          have y56 : (ju (ju (ju (ju M20 680 (F - 1) 1) 683 (F - 1) k) 684 (F - 1) v) 598 132 bh) 598 122 = F := ((ju_i _ _ (zne (by decide))).trans ((ju_c _ _ (by decide)).trans ((ju_c _ _ (by decide)).trans ((ju_c _ _ (by decide)).trans e55))))
          obtain ⟨v57, e57⟩ : ∃ z, M 598 136 = z := ⟨_, rfl⟩
          have b57 : 0 ≤ v57 ∧ v57 ≤ 1 := by rw [← e57]; exact hI_M 598 136 (Nat.le_of_ble_eq_true rfl)
          have e58 : M20 598 136 = v57 := ((w20_2 136 (zne rfl)).trans e57)
          have y59 : (ju (ju (ju (ju M20 680 (F - 1) 1) 683 (F - 1) k) 684 (F - 1) v) 598 132 bh) 598 136 = v57 := ((ju_i _ _ (zne (by decide))).trans ((ju_c _ _ (by decide)).trans ((ju_c _ _ (by decide)).trans ((ju_c _ _ (by decide)).trans e58))))
          exact jr.vreturn rfl rfl (q _ (RI.u (RI.u (RI.u (RI.u hI_M20 (a := 680) (i := (F - 1)) (by rw [xri_row rfl rfl]; show (0 : Int) ≤ _ ∧ _ ≤ (1 : Int); omega)) (a := 683) (i := (F - 1)) (by rw [xri_row rfl rfl]; show (0 : Int) ≤ _ ∧ _ ≤ (2 : Int); omega)) (a := 684) (i := (F - 1)) (by rw [xri_row rfl rfl]; show (0 : Int) ≤ _ ∧ _ ≤ (8 : Int); omega)) (a := 598) (i := 132) (show (0 : Int) ≤ _ ∧ _ ≤ (2200 : Int) from by omega)) (RH.o (RH.o (RH.o (RH.o hH_M20 (by decide) (by decide) (by decide)) (by decide) (by decide) (by decide)) (by decide) (by decide) (by decide)) (by decide) (by decide) (by decide)) (RF.o (RF.o (RF.o (RF.o hS_M20 (by decide) (by decide)) (by decide) (by decide)) (by decide) (by decide)) (by decide) (by decide))  (AS.o (AS.o (AS.o (AS.o w20_0 (by decide) (Or.inl (by decide))) (by decide) (Or.inl (by decide))) (by decide) (Or.inl (by decide))) (by decide) (Or.inr (by decide))) (Or.inr ⟨by omega, (FRS.fr hFR (fun i => ((ju_c _ _ (by decide)).trans ((ju_c _ _ (by decide)).trans ((ju_c _ _ (by decide)).trans ((ju_c _ _ (by decide)).trans ((w20_1 679 i (nne rfl) (nne rfl) (nne rfl) (nne rfl) (nne rfl) (nne rfl) (nne rfl)).trans (rfl))))))) (fun i => ((ju_c _ _ (by decide)).trans ((ju_c _ _ (by decide)).trans ((ju_c _ _ (by decide)).trans ((ju_c _ _ (by decide)).trans ((w20_1 681 i (nne rfl) (nne rfl) (nne rfl) (nne rfl) (nne rfl) (nne rfl) (nne rfl)).trans (rfl))))))) (fun i => ((ju_c _ _ (by decide)).trans ((ju_c _ _ (by decide)).trans ((ju_c _ _ (by decide)).trans ((ju_c _ _ (by decide)).trans ((w20_1 654 i (nne rfl) (nne rfl) (nne rfl) (nne rfl) (nne rfl) (nne rfl) (nne rfl)).trans (rfl))))))) ((ju_i _ _ (zne (by decide))).trans ((ju_c _ _ (by decide)).trans ((ju_c _ _ (by decide)).trans ((ju_c _ _ (by decide)).trans ((w20_2 82 (zne rfl)).trans (rfl)))))) (by omega)), by omega, by omega, (by rw [show (ju (ju (ju (ju M20 680 (F - 1) 1) 683 (F - 1) k) 684 (F - 1) v) 598 132 bh) 654 = M 654 from funext (fun i => ((ju_c _ _ (by decide)).trans ((ju_c _ _ (by decide)).trans ((ju_c _ _ (by decide)).trans ((ju_c _ _ (by decide)).trans ((w20_1 654 i (nne rfl) (nne rfl) (nne rfl) (nne rfl) (nne rfl) (nne rfl) (nne rfl)).trans (rfl))))))), (ju_same _ _ _ _)]; exact MX.re hMX (en.resolve_left (by omega))), (by have z1 := (phi.z (M := (ju (ju (ju (ju M20 680 (F - 1) 1) 683 (F - 1) k) 684 (F - 1) v) 598 132 bh)) ((ju_i _ _ (zne (by decide))).trans ((ju_c _ _ (by decide)).trans ((ju_c _ _ (by decide)).trans ((ju_c _ _ (by decide)).trans e55)))) ((ju_c _ _ (by decide)).trans ((ju_c _ _ (by decide)).trans ((ju_c _ _ (by decide)).trans (ju_same _ _ _ _))))).2 (by decide); have z2 := (phi.z (M := M) hF hbe).1 (by omega); omega)⟩) (fun a i f598 f602 f624 f670 f671 f672 f673 f680 f683 f684 => ((ju_c _ _ f598).trans ((ju_c _ _ f684).trans ((ju_c _ _ f683).trans ((ju_c _ _ f680).trans ((w20_1 a i f598 f602 f624 f670 f671 f672 f673).trans (hF_M a i f598 f602 f624 f670 f671 f672 f673 f680 f683 f684))))))) (fun i g112 g122 g132 g134 g136 g137 g138 => ((ju_i _ _ g132).trans ((ju_c _ _ (by decide)).trans ((ju_c _ _ (by decide)).trans ((ju_c _ _ (by decide)).trans ((w20_2 i g112).trans (hG_M i g112 g122 g132 g134 g136 g137 g138))))))))
theorem r_leave {A : Nat → Option (Nat × (Nat → Int32))} {Q : Option Value → jm → Prop} {L n : Int} {ht : Int → Int} {M : jm} (hI_M : RI M) (hH_M : RH M) (hS_M : RF M) {k : Int} (h_k : 0 ≤ k ∧ k ≤ 2) {v : Int} (h_v : 0 ≤ v ∧ v ≤ 8) (p0 : MX M ht n) (p1 : FRS M ht n (M 598 122)) (p2 : 1 ≤ M 598 122 ∧ M 598 122 ≤ 8) (p3 : AS M L) (p4 : L ≤ 2000000000) (q : ∀ (M' : jm), RI M' → RH M' → RF M' → AS M' L → ((M' 598 136 = 1) ∨ (M' 598 136 = M 598 136 ∧ FRS M' ht n (M' 598 122) ∧ 1 ≤ M' 598 122 ∧ M' 598 122 ≤ 8 ∧ REr (M' 654) ht n (M' 598 132) ∧ phi M' < phi M)) → (∀ (a : Nat) (i : Int), a ≠ 598 → a ≠ 602 → a ≠ 624 → a ≠ 670 → a ≠ 671 → a ≠ 672 → a ≠ 673 → a ≠ 680 → a ≠ 683 → a ≠ 684 → M' a i = M a i) → (∀ (i : Int), i ≠ 112 → i ≠ 122 → i ≠ 132 → i ≠ 134 → i ≠ 136 → i ≠ 137 → i ≠ 138 → M' 598 i = M 598 i) → Q none M') : jc A 5 377 [.ref (598), .int (Int32.ofInt (k)), .int (Int32.ofInt (v))] M Q := by
  have hMX := p0
  have hFR := p1
  have hAS := p3
  refine jc_of (m := xm_377) rfl (Nat.le_of_ble_eq_true rfl) rfl ?_
  refine jr.iload_n rfl rfl ?_
  refine jr.istore_n (ls' := [_, _, _, _]) rfl (nlt rfl) rfl ?_
  refine jr.iload_n rfl rfl ?_
  refine jr.istore (ls' := [_, _, _, _, _]) rfl (nlt rfl) rfl ?_
  obtain ⟨v1, e1⟩ : ∃ z, M 598 122 = z := ⟨_, rfl⟩
  have b1 : 0 ≤ v1 ∧ v1 ≤ 9 := by rw [← e1]; exact hI_M 598 122 (Nat.le_of_ble_eq_true rfl)
  obtain ⟨v3, e3⟩ : ∃ z, M 598 136 = z := ⟨_, rfl⟩
  have b3 : 0 ≤ v3 ∧ v3 ≤ 1 := by rw [← e3]; exact hI_M 598 136 (Nat.le_of_ble_eq_true rfl)
  refine jr.pick (ls := [_, _, _]) [0, 1, 2] rfl rfl ?_
  exact r_leave_L5 q 8 M v k hI_M hH_M hS_M  (fun a i f598 f602 f624 f670 f671 f672 f673 f680 f683 f684 => rfl) (fun i g112 g122 g132 g134 g136 g137 g138 => rfl) (by omega) (by omega) hMX (FRS.fr hFR (fun i => (rfl)) (fun i => (rfl)) (fun i => (rfl)) (rfl) (by omega)) (by rw [e1] <;> omega) hAS (by omega) (Int.le_refl _) (by rw [e3] <;> omega) (by omega)
theorem r_enter {A : Nat → Option (Nat × (Nat → Int32))} {Q : Option Value → jm → Prop} {L : Int} {M : jm} (hI_M : RI M) (hH_M : RH M) (hS_M : RF M) {c : Int} (h_c : 0 ≤ c ∧ c ≤ 15) {t : Int} (h_t : 0 ≤ t ∧ t ≤ 1) (p0 : 0 ≤ M 598 122 ∧ M 598 122 ≤ 8) (p1 : AS M L) (p2 : L ≤ 2000000000) (q : ∀ (M' : jm), RI M' → RH M' → RF M' → AS M' L → M' 598 122 = M 598 122 + 1 → M' 598 132 = M 652 c → (∀ j : Int, j ≠ M 598 122 → M' 679 j = M 679 j ∧ M' 681 j = M 681 j) → (M' 679 (M 598 122) = c ∧ M' 680 (M 598 122) = 0 ∧ M' 681 (M 598 122) = M 598 132) → (∀ (a : Nat) (i : Int), a ≠ 598 → a ≠ 679 → a ≠ 680 → a ≠ 681 → a ≠ 682 → a ≠ 685 → M' a i = M a i) → (∀ (i : Int), i ≠ 122 → i ≠ 132 → M' 598 i = M 598 i) → Q none M') : jc A 5 375 [.ref (598), .int (Int32.ofInt (c)), .int (Int32.ofInt (t))] M Q := by
  have hAS := p1
  refine jc_of (m := xm_375) rfl (Nat.le_of_ble_eq_true rfl) rfl ?_
  refine jr.aload_n rfl rfl ?_
  refine jr.getf (i := 123) (v := .ref 679) rfl rfl (nlt rfl) rfl (nlt rfl) rfl rfl rfl rfl ?_
  refine jr.aload_n rfl rfl ?_
  obtain ⟨v1, e1⟩ : ∃ z, M 598 122 = z := ⟨_, rfl⟩
  have b1 : 0 ≤ v1 ∧ v1 ≤ 9 := by rw [← e1]; exact hI_M 598 122 (Nat.le_of_ble_eq_true rfl)
  refine jr.getf (i := 122) (x := v1) (v := .int (Int32.ofInt (v1))) rfl rfl (nlt rfl) rfl (nlt rfl) rfl rfl e1 rfl ?_
  refine jr.iload_n rfl rfl ?_
  refine jr.iast (i := v1) (x := c) rfl (nlt rfl) rfl (Nat.le_of_ble_eq_true rfl) (by omega) (by omega) ?_
  refine jr.aload_n rfl rfl ?_
  refine jr.getf (i := 124) (v := .ref 680) rfl rfl (nlt rfl) rfl (nlt rfl) rfl rfl rfl rfl ?_
  refine jr.aload_n rfl rfl ?_
  refine jr.getf (i := 122) (x := v1) (v := .int (Int32.ofInt (v1))) rfl rfl (nlt rfl) rfl (nlt rfl) rfl rfl ((ju_c _ _ (by decide)).trans e1) rfl ?_
  refine jr.iconst rfl ?_
  refine jr.zast (i := v1) (x := 0) rfl (nlt rfl) rfl (Nat.le_of_ble_eq_true rfl) (by omega) (by omega) (j_zn (by omega)) ?_
  refine jr.aload_n rfl rfl ?_
  refine jr.getf (i := 125) (v := .ref 681) rfl rfl (nlt rfl) rfl (nlt rfl) rfl rfl rfl rfl ?_
  refine jr.aload_n rfl rfl ?_
  refine jr.getf (i := 122) (x := v1) (v := .int (Int32.ofInt (v1))) rfl rfl (nlt rfl) rfl (nlt rfl) rfl rfl ((ju_c _ _ (by decide)).trans ((ju_c _ _ (by decide)).trans e1)) rfl ?_
  refine jr.aload_n rfl rfl ?_
  obtain ⟨v2, e2⟩ : ∃ z, M 598 132 = z := ⟨_, rfl⟩
  have b2 : 0 ≤ v2 ∧ v2 ≤ 2200 := by rw [← e2]; exact hI_M 598 132 (Nat.le_of_ble_eq_true rfl)
  refine jr.getf (i := 132) (x := v2) (v := .int (Int32.ofInt (v2))) rfl rfl (nlt rfl) rfl (nlt rfl) rfl rfl ((ju_c _ _ (by decide)).trans ((ju_c _ _ (by decide)).trans e2)) rfl ?_
  refine jr.iast (i := v1) (x := v2) rfl (nlt rfl) rfl (Nat.le_of_ble_eq_true rfl) (by omega) (by omega) ?_
  refine jr.aload_n rfl rfl ?_
  refine jr.getf (i := 126) (v := .ref 682) rfl rfl (nlt rfl) rfl (nlt rfl) rfl rfl rfl rfl ?_
  refine jr.aload_n rfl rfl ?_
  refine jr.getf (i := 122) (x := v1) (v := .int (Int32.ofInt (v1))) rfl rfl (nlt rfl) rfl (nlt rfl) rfl rfl ((ju_c _ _ (by decide)).trans ((ju_c _ _ (by decide)).trans ((ju_c _ _ (by decide)).trans e1))) rfl ?_
  refine jr.iload_n rfl rfl ?_
  refine jr.zast (i := v1) (x := t) rfl (nlt rfl) rfl (Nat.le_of_ble_eq_true rfl) (by omega) (by omega) (j_zn (by omega)) ?_
  refine jr.aload_n rfl rfl ?_
  refine jr.aload_n rfl rfl ?_
  refine jr.getf (i := 122) (x := v1) (v := .int (Int32.ofInt (v1))) rfl rfl (nlt rfl) rfl (nlt rfl) rfl rfl ((ju_c _ _ (by decide)).trans ((ju_c _ _ (by decide)).trans ((ju_c _ _ (by decide)).trans ((ju_c _ _ (by decide)).trans e1)))) rfl ?_
  refine jr_v rfl rfl (Or.inl rfl) rfl rfl (nlt rfl) rfl ⟨rfl, Nat.le_of_ble_eq_true rfl, Nat.le_of_ble_eq_true rfl⟩ rfl (jc.deep (r_layAside (RI.u (RI.u (RI.u (RI.u hI_M (a := 679) (i := v1) (by rw [xri_row rfl rfl]; show (0 : Int) ≤ _ ∧ _ ≤ (15 : Int); omega)) (a := 680) (i := v1) (by rw [xri_row rfl rfl]; show (0 : Int) ≤ _ ∧ _ ≤ (1 : Int); omega)) (a := 681) (i := v1) (by rw [xri_row rfl rfl]; show (0 : Int) ≤ _ ∧ _ ≤ (2200 : Int); omega)) (a := 682) (i := v1) (by rw [xri_row rfl rfl]; show (0 : Int) ≤ _ ∧ _ ≤ (1 : Int); omega)) (RH.o (RH.o (RH.o (RH.o hH_M (by decide) (by decide) (by decide)) (by decide) (by decide) (by decide)) (by decide) (by decide) (by decide)) (by decide) (by decide) (by decide)) (RF.o (RF.o (RF.o (RF.o hS_M (by decide) (by decide)) (by decide) (by decide)) (by decide) (by decide)) (by decide) (by decide))  (by omega) (AS.o (AS.o (AS.o (AS.o hAS (by decide) (Or.inl (by decide))) (by decide) (Or.inl (by decide))) (by decide) (Or.inl (by decide))) (by decide) (Or.inl (by decide))) (by omega) (fun M3 hI_M3 hH_M3 hS_M3  w3_0 w3_1 => ?_)) (Nat.le_of_ble_eq_true rfl))
  refine jr.aload_n rfl rfl ?_
  refine jr.dup rfl rfl ?_
  have e4 : M3 598 122 = v1 := ((w3_1 598 122 (nne rfl)).trans ((ju_c _ _ (by decide)).trans ((ju_c _ _ (by decide)).trans ((ju_c _ _ (by decide)).trans ((ju_c _ _ (by decide)).trans e1)))))
  refine jr.getf (i := 122) (x := v1) (v := .int (Int32.ofInt (v1))) rfl rfl (nlt rfl) rfl (nlt rfl) rfl rfl e4 rfl ?_
  refine jr.iconst rfl ?_
  refine jr.iadd rfl ?_
  refine jr.putf (i := 122) (x := (v1 + 1)) rfl rfl (nlt rfl) rfl (nlt rfl) rfl rfl rfl rfl rfl ?_
  refine jr.aload_n rfl rfl ?_
  refine jr.aload_n rfl rfl ?_
  refine jr.getf (i := 84) (v := .ref 652) rfl rfl (nlt rfl) rfl (nlt rfl) rfl rfl rfl rfl ?_
  refine jr.iload_n rfl rfl ?_
  obtain ⟨v5, e5⟩ : ∃ z, M 652 c = z := ⟨_, rfl⟩
  have b5 : 0 ≤ v5 ∧ v5 ≤ 2200 := by rw [← e5]; exact (by have q := hI_M 652 c (Nat.le_of_ble_eq_true rfl); rw [xri_row rfl rfl] at q; exact q)
  have e6 : M3 652 c = v5 := ((w3_1 652 c (nne rfl)).trans ((ju_c _ _ (by decide)).trans ((ju_c _ _ (by decide)).trans ((ju_c _ _ (by decide)).trans ((ju_c _ _ (by decide)).trans e5)))))
  refine jr.iald (i := c) (x := v5) rfl (nlt rfl) rfl (Nat.le_of_ble_eq_true rfl) (by omega) (by omega) ((ju_c _ _ (by decide)).trans e6) ?_
  refine jr.putf (i := 132) (x := v5) rfl rfl (nlt rfl) rfl (nlt rfl) rfl rfl rfl rfl rfl ?_
  have y7 : (ju (ju M3 598 122 (v1 + 1)) 598 132 v5) 598 122 = v1 + 1 := ((ju_i _ _ (zne (by decide))).trans (ju_same _ _ _ _))
  have e8 : M3 679 v1 = c := ((w3_1 679 v1 (nne rfl)).trans ((ju_c _ _ (by decide)).trans ((ju_c _ _ (by decide)).trans ((ju_c _ _ (by decide)).trans (ju_same _ _ _ _)))))
  have e9 : M3 680 v1 = 0 := ((w3_1 680 v1 (nne rfl)).trans ((ju_c _ _ (by decide)).trans ((ju_c _ _ (by decide)).trans (ju_same _ _ _ _))))
  have e10 : M3 681 v1 = v2 := ((w3_1 681 v1 (nne rfl)).trans ((ju_c _ _ (by decide)).trans (ju_same _ _ _ _)))
  exact jr.vreturn rfl rfl (q _ (RI.u (RI.u hI_M3 (a := 598) (i := 122) (show (0 : Int) ≤ _ ∧ _ ≤ (9 : Int) from by omega)) (a := 598) (i := 132) (show (0 : Int) ≤ _ ∧ _ ≤ (2200 : Int) from by omega)) (RH.o (RH.o hH_M3 (by decide) (by decide) (by decide)) (by decide) (by decide) (by decide)) (RF.o (RF.o hS_M3 (by decide) (by decide)) (by decide) (by decide))  (AS.o (AS.o w3_0 (by decide) (Or.inr (by decide))) (by decide) (Or.inr (by decide))) ((((ju_i _ _ (zne (by decide))).trans (ju_same _ _ _ _))).trans (by omega)) (((ju_same _ _ _ _)).trans (e5).symm) (fun j hj => by rw [e1] at hj; exact ⟨(ju_c _ _ (by decide)).trans ((ju_c _ _ (by decide)).trans ((w3_1 679 j (nne rfl)).trans ((ju_c _ _ (by decide)).trans ((ju_c _ _ (by decide)).trans ((ju_c _ _ (by decide)).trans ((ju_i _ _ hj).trans (rfl))))))), (ju_c _ _ (by decide)).trans ((ju_c _ _ (by decide)).trans ((w3_1 681 j (nne rfl)).trans ((ju_c _ _ (by decide)).trans ((ju_i _ _ hj).trans ((ju_c _ _ (by decide)).trans ((ju_c _ _ (by decide)).trans (rfl)))))))⟩) (by rw [e1]; exact ⟨((ju_c _ _ (by decide)).trans ((ju_c _ _ (by decide)).trans e8)), ((ju_c _ _ (by decide)).trans ((ju_c _ _ (by decide)).trans e9)), (((ju_c _ _ (by decide)).trans ((ju_c _ _ (by decide)).trans e10))).trans (e2).symm⟩) (fun a i f598 f679 f680 f681 f682 f685 => ((ju_c _ _ f598).trans ((ju_c _ _ f598).trans ((w3_1 a i f685).trans ((ju_c _ _ f682).trans ((ju_c _ _ f681).trans ((ju_c _ _ f680).trans ((ju_c _ _ f679).trans rfl)))))))) (fun i g122 g132 => ((ju_i _ _ g132).trans ((ju_i _ _ g122).trans ((w3_1 598 i (nne rfl)).trans ((ju_c _ _ (by decide)).trans ((ju_c _ _ (by decide)).trans ((ju_c _ _ (by decide)).trans ((ju_c _ _ (by decide)).trans rfl)))))))))
end
section
/-! ===== the reference: contracts, 37.me ===== -/
theorem r_endBehind {A : Nat → Option (Nat × (Nat → Int32))} {Q : Option Value → jm → Prop} {L n : Int} {ht : Int → Int} {M : jm} (hI_M : RI M) (hH_M : RH M) (hS_M : RF M) {f : Int} (h_f : 0 ≤ f ∧ f ≤ 8) (p0 : MX M ht n) (p1 : FRS M ht n (M 598 122)) (p2 : 1 ≤ M 598 122 ∧ M 598 122 ≤ 8) (p3 : AS M L) (p4 : L ≤ 2000000000) (p5 : f = M 598 122 - 1) (q : ∀ (M' : jm), RI M' → RH M' → RF M' → AS M' L → ((M' 598 136 = 1) ∨ (M' 598 136 = M 598 136 ∧ FRS M' ht n (M' 598 122) ∧ 1 ≤ M' 598 122 ∧ M' 598 122 ≤ 8 ∧ REr (M' 654) ht n (M' 598 132) ∧ phi M' < phi M)) → (∀ (a : Nat) (i : Int), a ≠ 598 → a ≠ 602 → a ≠ 624 → a ≠ 670 → a ≠ 671 → a ≠ 672 → a ≠ 673 → a ≠ 680 → a ≠ 683 → a ≠ 684 → M' a i = M a i) → (∀ (i : Int), i ≠ 112 → i ≠ 122 → i ≠ 132 → i ≠ 134 → i ≠ 136 → i ≠ 137 → i ≠ 138 → M' 598 i = M 598 i) → Q none M') : jc A 6 381 [.ref (598), .int (Int32.ofInt (f))] M Q := by
  have hMX := p0
  have hFR := p1
  have hAS := p3
  obtain ⟨F, hF⟩ : ∃ z, M 598 122 = z := ⟨_, rfl⟩
  rw [hF] at p5
  have fr0 := hFR f (by omega) (by omega)
  obtain ⟨c, hc⟩ : ∃ z, M 679 f = z := ⟨_, rfl⟩
  obtain ⟨bk, hbk⟩ : ∃ z, M 681 f = z := ⟨_, rfl⟩
  rw [hc, hbk] at fr0
  obtain ⟨bh, hbh⟩ : ∃ z, M 653 c = z := ⟨_, rfl⟩
  obtain ⟨be, hbe⟩ : ∃ z, M 680 f = z := ⟨_, rfl⟩
  have en := (hMX.2.2.2.1 c fr0.1 fr0.2.1).2
  rw [hbh] at en
  have b_c : (0 : Int) ≤ c ∧ c ≤ (15 : Int) := by rw [← hc]; exact (by have q := hI_M 679 f (Nat.le_of_ble_eq_true rfl); rw [xri_row rfl rfl] at q; exact q)
  have b_bk : (0 : Int) ≤ bk ∧ bk ≤ (2200 : Int) := by rw [← hbk]; exact (by have q := hI_M 681 f (Nat.le_of_ble_eq_true rfl); rw [xri_row rfl rfl] at q; exact q)
  have b_bh : (-1 : Int) ≤ bh ∧ bh ≤ (2200 : Int) := by rw [← hbh]; exact (by have q := hI_M 653 (c) (Nat.le_of_ble_eq_true rfl); rw [xri_row rfl rfl] at q; exact q)
  have b_be : (0 : Int) ≤ be ∧ be ≤ (1 : Int) := by rw [← hbe]; exact (by have q := hI_M 680 f (Nat.le_of_ble_eq_true rfl); rw [xri_row rfl rfl] at q; exact q)
  refine jc_of (m := xm_381) rfl (Nat.le_of_ble_eq_true rfl) rfl ?_
  refine jr.aload_n rfl rfl ?_
  refine jr.getf (i := 127) (v := .ref 683) rfl rfl (nlt rfl) rfl (nlt rfl) rfl rfl rfl rfl ?_
  refine jr.iload_n rfl rfl ?_
  obtain ⟨v1, e1⟩ : ∃ z, M 683 f = z := ⟨_, rfl⟩
  have b1 : 0 ≤ v1 ∧ v1 ≤ 2 := by rw [← e1]; exact (by have q := hI_M 683 f (Nat.le_of_ble_eq_true rfl); rw [xri_row rfl rfl] at q; exact q)
  refine jr.iald (i := f) (x := v1) rfl (nlt rfl) rfl (Nat.le_of_ble_eq_true rfl) (by omega) (by omega) e1 ?_
  refine jr.istore_n (ls' := [_, _, _]) rfl (nlt rfl) rfl ?_
  refine jr.aload_n rfl rfl ?_
  refine jr.getf (i := 128) (v := .ref 684) rfl rfl (nlt rfl) rfl (nlt rfl) rfl rfl rfl rfl ?_
  refine jr.iload_n rfl rfl ?_
  obtain ⟨v2, e2⟩ : ∃ z, M 684 f = z := ⟨_, rfl⟩
  have b2 : 0 ≤ v2 ∧ v2 ≤ 8 := by rw [← e2]; exact (by have q := hI_M 684 f (Nat.le_of_ble_eq_true rfl); rw [xri_row rfl rfl] at q; exact q)
  refine jr.iald (i := f) (x := v2) rfl (nlt rfl) rfl (Nat.le_of_ble_eq_true rfl) (by omega) (by omega) e2 ?_
  refine jr.istore_n (ls' := [_, _, _, _]) rfl (nlt rfl) rfl ?_
  refine jr.aload_n rfl rfl ?_
  refine jr.dup rfl rfl ?_
  refine jr.getf (i := 122) (x := F) (v := .int (Int32.ofInt (F))) rfl rfl (nlt rfl) rfl (nlt rfl) rfl rfl hF rfl ?_
  refine jr.iconst rfl ?_
  refine jr.isub rfl ?_
  refine jr.putf (i := 122) (x := (F - 1)) rfl rfl (nlt rfl) rfl (nlt rfl) rfl rfl rfl rfl rfl ?_
  refine jr.aload_n rfl rfl ?_
  refine jr.getf (i := 122) (x := (F - 1)) (v := .int (Int32.ofInt (F - 1))) rfl rfl (nlt rfl) rfl (nlt rfl) rfl rfl (ju_same _ _ _ _) rfl ?_
  refine jr.if_ne rfl rfl (by first | (refine rgb (by assumption) ?_; exact rfl) | omega) (fun h28 => ?_) (fun h28 => ?_)
  · have sx28 : (1 : Int) ≤ (F - 1) := by omega
    clear h28
    refine jr.iload_n rfl rfl ?_
    refine jr.iconst rfl ?_
    refine jr.icmp_ne rfl rfl (by first | (refine rgb (by assumption) ?_; exact rfl) | omega) (rgl rfl) (fun h49 => ?_) (fun h49 => ?_)
    · have sx49 : v1 ≤ (1 : Int) := by omega
      clear h49
      refine jr.iconst rfl ?_
      refine jr.istore (ls' := [_, _, _, _, _]) rfl (nlt rfl) rfl ?_
      refine jr.iload_n rfl rfl ?_
      refine jr.if_eq rfl rfl (by first | (refine rgb (by assumption) ?_; exact rfl) | omega) (fun h75 => ?_) (fun h75 => ?_)
      · refine jr.aload_n rfl rfl ?_
        refine jr.iload rfl rfl ?_
        refine jr.if_eq rfl rfl (by first | exact rgl rfl | omega) (fun _ => ?_) (fun h => absurd (by decide) h)
        refine jr.aload_n rfl rfl ?_
        obtain ⟨v3, e3⟩ : ∃ z, M 598 134 = z := ⟨_, rfl⟩
        have b3 : 0 ≤ v3 ∧ v3 ≤ 8 := by rw [← e3]; exact hI_M 598 134 (Nat.le_of_ble_eq_true rfl)
        refine jr.getf (i := 134) (x := v3) (v := .int (Int32.ofInt (v3))) rfl rfl (nlt rfl) rfl (nlt rfl) rfl rfl ((ju_i _ _ (zne (by decide))).trans e3) rfl ?_
        refine jr.putf (i := 134) (x := v3) rfl rfl (nlt rfl) rfl (nlt rfl) rfl rfl rfl rfl rfl ?_
        refine jr.aload_n rfl rfl ?_
        refine jr.aload_n rfl rfl ?_
        refine jr.getf (i := 125) (v := .ref 681) rfl rfl (nlt rfl) rfl (nlt rfl) rfl rfl rfl rfl ?_
        refine jr.iload_n rfl rfl ?_
        refine jr.iald (i := f) (x := bk) rfl (nlt rfl) rfl (Nat.le_of_ble_eq_true rfl) (by omega) (by omega) ((ju_c _ _ (by decide)).trans ((ju_c _ _ (by decide)).trans hbk)) ?_
        refine jr.putf (i := 132) (x := bk) rfl rfl (nlt rfl) rfl (nlt rfl) rfl rfl rfl rfl rfl ?_
        have y4 : (ju (ju (ju M 598 122 (F - 1)) 598 134 v3) 598 132 bk) 598 122 = F - 1 := ((ju_i _ _ (zne (by decide))).trans ((ju_i _ _ (zne (by decide))).trans (ju_same _ _ _ _)))
        obtain ⟨v5, e5⟩ : ∃ z, M 598 136 = z := ⟨_, rfl⟩
        have b5 : 0 ≤ v5 ∧ v5 ≤ 1 := by rw [← e5]; exact hI_M 598 136 (Nat.le_of_ble_eq_true rfl)
        have y6 : (ju (ju (ju M 598 122 (F - 1)) 598 134 v3) 598 132 bk) 598 136 = v5 := ((ju_i _ _ (zne (by decide))).trans ((ju_i _ _ (zne (by decide))).trans ((ju_i _ _ (zne (by decide))).trans e5)))
        exact jr.vreturn rfl rfl (q _ (RI.u (RI.u (RI.u hI_M (a := 598) (i := 122) (show (0 : Int) ≤ _ ∧ _ ≤ (9 : Int) from by omega)) (a := 598) (i := 134) (show (0 : Int) ≤ _ ∧ _ ≤ (8 : Int) from by omega)) (a := 598) (i := 132) (show (0 : Int) ≤ _ ∧ _ ≤ (2200 : Int) from by omega)) (RH.o (RH.o (RH.o hH_M (by decide) (by decide) (by decide)) (by decide) (by decide) (by decide)) (by decide) (by decide) (by decide)) (RF.o (RF.o (RF.o hS_M (by decide) (by decide)) (by decide) (by decide)) (by decide) (by decide))  (AS.o (AS.o (AS.o hAS (by decide) (Or.inr (by decide))) (by decide) (Or.inr (by decide))) (by decide) (Or.inr (by decide))) (Or.inr ⟨by omega, (FRS.fr hFR (fun i => ((ju_c _ _ (by decide)).trans ((ju_c _ _ (by decide)).trans ((ju_c _ _ (by decide)).trans (rfl))))) (fun i => ((ju_c _ _ (by decide)).trans ((ju_c _ _ (by decide)).trans ((ju_c _ _ (by decide)).trans (rfl))))) (fun i => ((ju_c _ _ (by decide)).trans ((ju_c _ _ (by decide)).trans ((ju_c _ _ (by decide)).trans (rfl))))) ((ju_i _ _ (zne (by decide))).trans ((ju_i _ _ (zne (by decide))).trans ((ju_i _ _ (zne (by decide))).trans (rfl)))) (by omega)), by omega, by omega, (by rw [show (ju (ju (ju M 598 122 (F - 1)) 598 134 v3) 598 132 bk) 654 = M 654 from funext (fun i => ((ju_c _ _ (by decide)).trans ((ju_c _ _ (by decide)).trans ((ju_c _ _ (by decide)).trans (rfl))))), (ju_same _ _ _ _)]; exact fr0.2.2 (by omega)), (by have z1 := (phi.le (ju (ju (ju M 598 122 (F - 1)) 598 134 v3) 598 132 bk)).2; have z2 := (phi.le M).1; omega)⟩) (fun a i f598 f602 f624 f670 f671 f672 f673 f680 f683 f684 => ((ju_c _ _ f598).trans ((ju_c _ _ f598).trans ((ju_c _ _ f598).trans rfl)))) (fun i g112 g122 g132 g134 g136 g137 g138 => ((ju_i _ _ g132).trans ((ju_i _ _ g134).trans ((ju_i _ _ g122).trans rfl)))))
      · have sx75 : (1 : Int) ≤ v1 := by omega
        clear h75
        refine jr.iload rfl rfl ?_
        refine jr.if_eq rfl rfl (by first | exact rgl rfl | omega) (fun _ => ?_) (fun h => absurd (by decide) h)
        refine jr.aload_n rfl rfl ?_
        refine jr.iload_n rfl rfl ?_
        refine jr.iload_n rfl rfl ?_
        have y8 : (ju M 598 122 (F - 1)) 598 122 = F - 1 := (ju_same _ _ _ _)
        refine jr_v rfl rfl (Or.inl rfl) rfl rfl (nlt rfl) rfl ⟨rfl, Nat.le_of_ble_eq_true rfl, Nat.le_of_ble_eq_true rfl⟩ rfl (jc.deep (r_leave (RI.u hI_M (a := 598) (i := 122) (show (0 : Int) ≤ _ ∧ _ ≤ (9 : Int) from by omega)) (RH.o hH_M (by decide) (by decide) (by decide)) (RF.o hS_M (by decide) (by decide))  (by omega) (by omega) (MX.o hMX (by decide) (Or.inr (by decide))) (FRS.fr hFR (fun i => ((ju_c _ _ (by decide)).trans (rfl))) (fun i => ((ju_c _ _ (by decide)).trans (rfl))) (fun i => ((ju_c _ _ (by decide)).trans (rfl))) ((ju_i _ _ (zne (by decide))).trans (rfl)) (by omega)) (by rw [(ju_same _ _ _ _)]; omega) (AS.o hAS (by decide) (Or.inr (by decide))) (by omega) (fun M7 hI_M7 hH_M7 hS_M7  w7_0 w7_1 w7_2 w7_3 => ?_)) (Nat.le_of_ble_eq_true rfl))
        obtain ⟨v10, e10⟩ : ∃ z, M 598 136 = z := ⟨_, rfl⟩
        have b10 : 0 ≤ v10 ∧ v10 ≤ 1 := by rw [← e10]; exact hI_M 598 136 (Nat.le_of_ble_eq_true rfl)
        have y9 : (ju M 598 122 (F - 1)) 598 122 = F - 1 := (ju_same _ _ _ _)
        have y11 : (ju M 598 122 (F - 1)) 598 136 = v10 := ((ju_i _ _ (zne (by decide))).trans e10)
        obtain ⟨v12, e12⟩ : ∃ z, M 598 136 = z := ⟨_, rfl⟩
        have b12 : 0 ≤ v12 ∧ v12 ≤ 1 := by rw [← e12]; exact hI_M 598 136 (Nat.le_of_ble_eq_true rfl)
        exact jr.vreturn rfl rfl (q _ hI_M7 hH_M7 hS_M7  w7_0 (by rcases w7_1 with z | ⟨y1, y2, y3, y4, y5, y6⟩; (exact Or.inl z); (have z1 := (phi.le (ju M 598 122 (F - 1))).2; have z2 := (phi.le M).1; exact Or.inr ⟨by omega, y2, y3, y4, y5, by omega⟩)) (fun a i f598 f602 f624 f670 f671 f672 f673 f680 f683 f684 => ((w7_2 a i f598 f602 f624 f670 f671 f672 f673 f680 f683 f684).trans ((ju_c _ _ f598).trans rfl))) (fun i g112 g122 g132 g134 g136 g137 g138 => ((w7_3 i g112 g122 g132 g134 g136 g137 g138).trans ((ju_i _ _ g122).trans rfl))))
    · refine jr.aload_n rfl rfl ?_
      refine jr.getf (i := 126) (v := .ref 682) rfl rfl (nlt rfl) rfl (nlt rfl) rfl rfl rfl rfl ?_
      refine jr.iload_n rfl rfl ?_
      obtain ⟨v13, e13⟩ : ∃ z, M 682 f = z := ⟨_, rfl⟩
      have b13 : 0 ≤ v13 ∧ v13 ≤ 1 := by rw [← e13]; exact (by have q := hI_M 682 f (Nat.le_of_ble_eq_true rfl); rw [xri_row rfl rfl] at q; exact q)
      refine jr.zald (i := f) (x := v13) rfl (nlt rfl) rfl (Nat.le_of_ble_eq_true rfl) (by omega) (by omega) ((ju_c _ _ (by decide)).trans e13) ?_
      refine jr.if_eq rfl rfl (by first | (refine rgb (by assumption) ?_; exact rfl) | omega) (fun h58 => ?_) (fun h58 => ?_)
      · refine jr.iconst rfl ?_
        refine jr.istore (ls' := [_, _, _, _, _]) rfl (nlt rfl) rfl ?_
        refine jr.iload_n rfl rfl ?_
        refine jr.if_eq rfl rfl (by first | (refine rgb (by assumption) ?_; exact rfl) | omega) (fun h75 => ?_) (fun h75 => ?_)
        · exact absurd h75 (by omega)
        · refine jr.iload rfl rfl ?_
          refine jr.if_eq rfl rfl (by first | exact rgl rfl | omega) (fun _ => ?_) (fun h => absurd (by decide) h)
          refine jr.aload_n rfl rfl ?_
          refine jr.iload_n rfl rfl ?_
          refine jr.iload_n rfl rfl ?_
          have y15 : (ju M 598 122 (F - 1)) 598 122 = F - 1 := (ju_same _ _ _ _)
          refine jr_v rfl rfl (Or.inl rfl) rfl rfl (nlt rfl) rfl ⟨rfl, Nat.le_of_ble_eq_true rfl, Nat.le_of_ble_eq_true rfl⟩ rfl (jc.deep (r_leave (RI.u hI_M (a := 598) (i := 122) (show (0 : Int) ≤ _ ∧ _ ≤ (9 : Int) from by omega)) (RH.o hH_M (by decide) (by decide) (by decide)) (RF.o hS_M (by decide) (by decide))  (by omega) (by omega) (MX.o hMX (by decide) (Or.inr (by decide))) (FRS.fr hFR (fun i => ((ju_c _ _ (by decide)).trans (rfl))) (fun i => ((ju_c _ _ (by decide)).trans (rfl))) (fun i => ((ju_c _ _ (by decide)).trans (rfl))) ((ju_i _ _ (zne (by decide))).trans (rfl)) (by omega)) (by rw [(ju_same _ _ _ _)]; omega) (AS.o hAS (by decide) (Or.inr (by decide))) (by omega) (fun M14 hI_M14 hH_M14 hS_M14  w14_0 w14_1 w14_2 w14_3 => ?_)) (Nat.le_of_ble_eq_true rfl))
          obtain ⟨v17, e17⟩ : ∃ z, M 598 136 = z := ⟨_, rfl⟩
          have b17 : 0 ≤ v17 ∧ v17 ≤ 1 := by rw [← e17]; exact hI_M 598 136 (Nat.le_of_ble_eq_true rfl)
          have y16 : (ju M 598 122 (F - 1)) 598 122 = F - 1 := (ju_same _ _ _ _)
          have y18 : (ju M 598 122 (F - 1)) 598 136 = v17 := ((ju_i _ _ (zne (by decide))).trans e17)
          obtain ⟨v19, e19⟩ : ∃ z, M 598 136 = z := ⟨_, rfl⟩
          have b19 : 0 ≤ v19 ∧ v19 ≤ 1 := by rw [← e19]; exact hI_M 598 136 (Nat.le_of_ble_eq_true rfl)
          exact jr.vreturn rfl rfl (q _ hI_M14 hH_M14 hS_M14  w14_0 (by rcases w14_1 with z | ⟨y1, y2, y3, y4, y5, y6⟩; (exact Or.inl z); (have z1 := (phi.le (ju M 598 122 (F - 1))).2; have z2 := (phi.le M).1; exact Or.inr ⟨by omega, y2, y3, y4, y5, by omega⟩)) (fun a i f598 f602 f624 f670 f671 f672 f673 f680 f683 f684 => ((w14_2 a i f598 f602 f624 f670 f671 f672 f673 f680 f683 f684).trans ((ju_c _ _ f598).trans rfl))) (fun i g112 g122 g132 g134 g136 g137 g138 => ((w14_3 i g112 g122 g132 g134 g136 g137 g138).trans ((ju_i _ _ g122).trans rfl))))
      · have sx58 : (1 : Int) ≤ v13 := by omega
        clear h58
        refine jr.iload_n rfl rfl ?_
        refine jr.bipush rfl (jbp _ (nlt rfl)) ?_
        refine jr.icmp_eq rfl rfl (by first | (refine rgb (by assumption) ?_; exact rfl) | omega) (rgl rfl) (fun h64 => ?_) (fun h64 => ?_)
        · refine jr.iconst rfl ?_
          refine jr.istore (ls' := [_, _, _, _, _]) rfl (nlt rfl) rfl ?_
          refine jr.iload_n rfl rfl ?_
          refine jr.if_eq rfl rfl (by first | (refine rgb (by assumption) ?_; exact rfl) | omega) (fun h75 => ?_) (fun h75 => ?_)
          · exact absurd h75 (by omega)
          · refine jr.iload rfl rfl ?_
            refine jr.if_eq rfl rfl (by first | exact rgl rfl | omega) (fun _ => ?_) (fun h => absurd (by decide) h)
            refine jr.aload_n rfl rfl ?_
            refine jr.iload_n rfl rfl ?_
            refine jr.iload_n rfl rfl ?_
            have y21 : (ju M 598 122 (F - 1)) 598 122 = F - 1 := (ju_same _ _ _ _)
            refine jr_v rfl rfl (Or.inl rfl) rfl rfl (nlt rfl) rfl ⟨rfl, Nat.le_of_ble_eq_true rfl, Nat.le_of_ble_eq_true rfl⟩ rfl (jc.deep (r_leave (RI.u hI_M (a := 598) (i := 122) (show (0 : Int) ≤ _ ∧ _ ≤ (9 : Int) from by omega)) (RH.o hH_M (by decide) (by decide) (by decide)) (RF.o hS_M (by decide) (by decide))  (by omega) (by omega) (MX.o hMX (by decide) (Or.inr (by decide))) (FRS.fr hFR (fun i => ((ju_c _ _ (by decide)).trans (rfl))) (fun i => ((ju_c _ _ (by decide)).trans (rfl))) (fun i => ((ju_c _ _ (by decide)).trans (rfl))) ((ju_i _ _ (zne (by decide))).trans (rfl)) (by omega)) (by rw [(ju_same _ _ _ _)]; omega) (AS.o hAS (by decide) (Or.inr (by decide))) (by omega) (fun M20 hI_M20 hH_M20 hS_M20  w20_0 w20_1 w20_2 w20_3 => ?_)) (Nat.le_of_ble_eq_true rfl))
            obtain ⟨v23, e23⟩ : ∃ z, M 598 136 = z := ⟨_, rfl⟩
            have b23 : 0 ≤ v23 ∧ v23 ≤ 1 := by rw [← e23]; exact hI_M 598 136 (Nat.le_of_ble_eq_true rfl)
            have y22 : (ju M 598 122 (F - 1)) 598 122 = F - 1 := (ju_same _ _ _ _)
            have y24 : (ju M 598 122 (F - 1)) 598 136 = v23 := ((ju_i _ _ (zne (by decide))).trans e23)
            obtain ⟨v25, e25⟩ : ∃ z, M 598 136 = z := ⟨_, rfl⟩
            have b25 : 0 ≤ v25 ∧ v25 ≤ 1 := by rw [← e25]; exact hI_M 598 136 (Nat.le_of_ble_eq_true rfl)
            exact jr.vreturn rfl rfl (q _ hI_M20 hH_M20 hS_M20  w20_0 (by rcases w20_1 with z | ⟨y1, y2, y3, y4, y5, y6⟩; (exact Or.inl z); (have z1 := (phi.le (ju M 598 122 (F - 1))).2; have z2 := (phi.le M).1; exact Or.inr ⟨by omega, y2, y3, y4, y5, by omega⟩)) (fun a i f598 f602 f624 f670 f671 f672 f673 f680 f683 f684 => ((w20_2 a i f598 f602 f624 f670 f671 f672 f673 f680 f683 f684).trans ((ju_c _ _ f598).trans rfl))) (fun i g112 g122 g132 g134 g136 g137 g138 => ((w20_3 i g112 g122 g132 g134 g136 g137 g138).trans ((ju_i _ _ g122).trans rfl))))
        · have sx64 : v2 ≤ (7 : Int) := by omega
          clear h64
          refine jr.iconst rfl ?_
          refine jr.goto rfl rfl ?_
          refine jr.istore (ls' := [_, _, _, _, _]) rfl (nlt rfl) rfl ?_
          refine jr.iload_n rfl rfl ?_
          refine jr.if_eq rfl rfl (by first | (refine rgb (by assumption) ?_; exact rfl) | omega) (fun h75 => ?_) (fun h75 => ?_)
          · exact absurd h75 (by omega)
          · refine jr.iload rfl rfl ?_
            refine jr.if_eq rfl rfl (by first | exact rgl rfl | omega) (fun h => absurd h (by decide)) (fun _ => ?_)
            refine jr.aload_n rfl rfl ?_
            refine jr.iload rfl rfl ?_
            refine jr.if_eq rfl rfl (by first | exact rgl rfl | omega) (fun h => absurd h (by decide)) (fun _ => ?_)
            refine jr.iload_n rfl rfl ?_
            refine jr.goto rfl rfl ?_
            refine jr.putf (i := 134) (x := v2) rfl rfl (nlt rfl) rfl (nlt rfl) rfl rfl rfl rfl rfl ?_
            refine jr.aload_n rfl rfl ?_
            refine jr.aload_n rfl rfl ?_
            refine jr.getf (i := 125) (v := .ref 681) rfl rfl (nlt rfl) rfl (nlt rfl) rfl rfl rfl rfl ?_
            refine jr.iload_n rfl rfl ?_
            refine jr.iald (i := f) (x := bk) rfl (nlt rfl) rfl (Nat.le_of_ble_eq_true rfl) (by omega) (by omega) ((ju_c _ _ (by decide)).trans ((ju_c _ _ (by decide)).trans hbk)) ?_
            refine jr.putf (i := 132) (x := bk) rfl rfl (nlt rfl) rfl (nlt rfl) rfl rfl rfl rfl rfl ?_
            have y26 : (ju (ju (ju M 598 122 (F - 1)) 598 134 v2) 598 132 bk) 598 122 = F - 1 := ((ju_i _ _ (zne (by decide))).trans ((ju_i _ _ (zne (by decide))).trans (ju_same _ _ _ _)))
            obtain ⟨v27, e27⟩ : ∃ z, M 598 136 = z := ⟨_, rfl⟩
            have b27 : 0 ≤ v27 ∧ v27 ≤ 1 := by rw [← e27]; exact hI_M 598 136 (Nat.le_of_ble_eq_true rfl)
            have y28 : (ju (ju (ju M 598 122 (F - 1)) 598 134 v2) 598 132 bk) 598 136 = v27 := ((ju_i _ _ (zne (by decide))).trans ((ju_i _ _ (zne (by decide))).trans ((ju_i _ _ (zne (by decide))).trans e27)))
            exact jr.vreturn rfl rfl (q _ (RI.u (RI.u (RI.u hI_M (a := 598) (i := 122) (show (0 : Int) ≤ _ ∧ _ ≤ (9 : Int) from by omega)) (a := 598) (i := 134) (show (0 : Int) ≤ _ ∧ _ ≤ (8 : Int) from by omega)) (a := 598) (i := 132) (show (0 : Int) ≤ _ ∧ _ ≤ (2200 : Int) from by omega)) (RH.o (RH.o (RH.o hH_M (by decide) (by decide) (by decide)) (by decide) (by decide) (by decide)) (by decide) (by decide) (by decide)) (RF.o (RF.o (RF.o hS_M (by decide) (by decide)) (by decide) (by decide)) (by decide) (by decide))  (AS.o (AS.o (AS.o hAS (by decide) (Or.inr (by decide))) (by decide) (Or.inr (by decide))) (by decide) (Or.inr (by decide))) (Or.inr ⟨by omega, (FRS.fr hFR (fun i => ((ju_c _ _ (by decide)).trans ((ju_c _ _ (by decide)).trans ((ju_c _ _ (by decide)).trans (rfl))))) (fun i => ((ju_c _ _ (by decide)).trans ((ju_c _ _ (by decide)).trans ((ju_c _ _ (by decide)).trans (rfl))))) (fun i => ((ju_c _ _ (by decide)).trans ((ju_c _ _ (by decide)).trans ((ju_c _ _ (by decide)).trans (rfl))))) ((ju_i _ _ (zne (by decide))).trans ((ju_i _ _ (zne (by decide))).trans ((ju_i _ _ (zne (by decide))).trans (rfl)))) (by omega)), by omega, by omega, (by rw [show (ju (ju (ju M 598 122 (F - 1)) 598 134 v2) 598 132 bk) 654 = M 654 from funext (fun i => ((ju_c _ _ (by decide)).trans ((ju_c _ _ (by decide)).trans ((ju_c _ _ (by decide)).trans (rfl))))), (ju_same _ _ _ _)]; exact fr0.2.2 (by omega)), (by have z1 := (phi.le (ju (ju (ju M 598 122 (F - 1)) 598 134 v2) 598 132 bk)).2; have z2 := (phi.le M).1; omega)⟩) (fun a i f598 f602 f624 f670 f671 f672 f673 f680 f683 f684 => ((ju_c _ _ f598).trans ((ju_c _ _ f598).trans ((ju_c _ _ f598).trans rfl)))) (fun i g112 g122 g132 g134 g136 g137 g138 => ((ju_i _ _ g132).trans ((ju_i _ _ g134).trans ((ju_i _ _ g122).trans rfl)))))
  · refine jr.aload_n rfl rfl ?_
    refine jr.iconst rfl ?_
    refine jr.putf (i := 136) (x := 1) rfl rfl (nlt rfl) rfl (nlt rfl) rfl rfl rfl rfl rfl ?_
    refine jr.aload_n rfl rfl ?_
    refine jr.iload_n rfl rfl ?_
    refine jr.putf (i := 137) (x := v1) rfl rfl (nlt rfl) rfl (nlt rfl) rfl rfl rfl rfl rfl ?_
    refine jr.aload_n rfl rfl ?_
    refine jr.iload_n rfl rfl ?_
    refine jr.putf (i := 138) (x := v2) rfl rfl (nlt rfl) rfl (nlt rfl) rfl rfl rfl rfl rfl ?_
    have y29 : (ju (ju (ju (ju M 598 122 (F - 1)) 598 136 1) 598 137 v1) 598 138 v2) 598 122 = F - 1 := ((ju_i _ _ (zne (by decide))).trans ((ju_i _ _ (zne (by decide))).trans ((ju_i _ _ (zne (by decide))).trans (ju_same _ _ _ _))))
    have y30 : (ju (ju (ju (ju M 598 122 (F - 1)) 598 136 1) 598 137 v1) 598 138 v2) 598 136 = 1 := ((ju_i _ _ (zne (by decide))).trans ((ju_i _ _ (zne (by decide))).trans (ju_same _ _ _ _)))
    exact jr.vreturn rfl rfl (q _ (RI.u (RI.u (RI.u (RI.u hI_M (a := 598) (i := 122) (show (0 : Int) ≤ _ ∧ _ ≤ (9 : Int) from by omega)) (a := 598) (i := 136) (show (0 : Int) ≤ _ ∧ _ ≤ (1 : Int) from by omega)) (a := 598) (i := 137) (show (0 : Int) ≤ _ ∧ _ ≤ (2 : Int) from by omega)) (a := 598) (i := 138) (show (0 : Int) ≤ _ ∧ _ ≤ (8 : Int) from by omega)) (RH.o (RH.o (RH.o (RH.o hH_M (by decide) (by decide) (by decide)) (by decide) (by decide) (by decide)) (by decide) (by decide) (by decide)) (by decide) (by decide) (by decide)) (RF.o (RF.o (RF.o (RF.o hS_M (by decide) (by decide)) (by decide) (by decide)) (by decide) (by decide)) (by decide) (by decide))  (AS.o (AS.o (AS.o (AS.o hAS (by decide) (Or.inr (by decide))) (by decide) (Or.inr (by decide))) (by decide) (Or.inr (by decide))) (by decide) (Or.inr (by decide))) (Or.inl (((ju_i _ _ (zne (by decide))).trans ((ju_i _ _ (zne (by decide))).trans (ju_same _ _ _ _))))) (fun a i f598 f602 f624 f670 f671 f672 f673 f680 f683 f684 => ((ju_c _ _ f598).trans ((ju_c _ _ f598).trans ((ju_c _ _ f598).trans ((ju_c _ _ f598).trans rfl))))) (fun i g112 g122 g132 g134 g136 g137 g138 => ((ju_i _ _ g138).trans ((ju_i _ _ g137).trans ((ju_i _ _ g136).trans ((ju_i _ _ g122).trans rfl))))))
theorem r_raise_L37 {A : Nat → Option (Nat × (Nat → Int32))} {Q : Option Value → jm → Prop} {L n : Int} {ht : Int → Int} {M0 : jm} (q : ∀ (M' : jm), RI M' → RH M' → RF M' → AS M' L → ((M' 598 136 = 1) ∨ (M' 598 136 = M0 598 136 ∧ FRS M' ht n (M' 598 122) ∧ 1 ≤ M' 598 122 ∧ M' 598 122 ≤ 8 ∧ REr (M' 654) ht n (M' 598 132) ∧ phi M' < phi M0)) → M' 598 131 = 0 → (∀ (a : Nat) (i : Int), a ≠ 598 → a ≠ 602 → a ≠ 624 → a ≠ 670 → a ≠ 671 → a ≠ 672 → a ≠ 673 → a ≠ 680 → a ≠ 683 → a ≠ 684 → M' a i = M0 a i) → (∀ (i : Int), i ≠ 112 → i ≠ 122 → i ≠ 132 → i ≠ 134 → i ≠ 136 → i ≠ 137 → i ≠ 138 → i ≠ 111 → i ≠ 131 → i ≠ 142 → i ≠ 147 → M' 598 i = M0 598 i) → Q none M') : ∀ (M : jm) (m : Int) (x : Int) (y : Int), RI M → RH M → RF M → (∀ (a : Nat) (i : Int), a ≠ 598 → a ≠ 602 → a ≠ 624 → a ≠ 670 → a ≠ 671 → a ≠ 672 → a ≠ 673 → a ≠ 680 → a ≠ 683 → a ≠ 684 → M a i = M0 a i) → (∀ (i : Int), i ≠ 112 → i ≠ 122 → i ≠ 132 → i ≠ 134 → i ≠ 136 → i ≠ 137 → i ≠ 138 → i ≠ 111 → i ≠ 131 → i ≠ 142 → i ≠ 147 → M 598 i = M0 598 i) → 1 ≤ m ∧ m ≤ 8 → 0 ≤ x ∧ x ≤ 2000 → 0 ≤ y ∧ y ≤ 1 → x + y ≤ 2000 → MX M ht n → FRS M ht n (M 598 122) → 1 ≤ M 598 122 ∧ M 598 122 ≤ 8 → AS M L → L ≤ 2000000000 → M = M0 → jr A 5 xm_378 37 [(2, .int (Int32.ofInt (m))), (0, .ref (598))] [.int (Int32.ofInt (y)), .int (Int32.ofInt (x)), .ref (598)] M Q := by
    intro M m x y hI_M hH_M hS_M hF_M hG_M h_m h_x h_y hy0 hy1 hy2 hy3 hy4 hy5 hy6
    subst hy6
    have hMX := hy1
    have hFR := hy2
    have hAS := hy4
    refine jr.iadd rfl ?_
    refine jr.putf (i := 111) (x := (x + y)) rfl rfl (nlt rfl) rfl (nlt rfl) rfl rfl rfl rfl rfl ?_
    refine jr.aload_n rfl rfl ?_
    refine jr.aload_n rfl rfl ?_
    refine jr.getf (i := 123) (v := .ref 679) rfl rfl (nlt rfl) rfl (nlt rfl) rfl rfl rfl rfl ?_
    refine jr.aload_n rfl rfl ?_
    obtain ⟨v1, e1⟩ : ∃ z, M 598 122 = z := ⟨_, rfl⟩
    have b1 : 0 ≤ v1 ∧ v1 ≤ 9 := by rw [← e1]; exact hI_M 598 122 (Nat.le_of_ble_eq_true rfl)
    refine jr.getf (i := 122) (x := v1) (v := .int (Int32.ofInt (v1))) rfl rfl (nlt rfl) rfl (nlt rfl) rfl rfl ((ju_i _ _ (zne (by decide))).trans e1) rfl ?_
    refine jr.iconst rfl ?_
    refine jr.isub rfl ?_
    obtain ⟨v2, e2⟩ : ∃ z, M 679 (v1 - 1) = z := ⟨_, rfl⟩
    have b2 : 0 ≤ v2 ∧ v2 ≤ 15 := by rw [← e2]; exact (by have q := hI_M 679 (v1 - 1) (Nat.le_of_ble_eq_true rfl); rw [xri_row rfl rfl] at q; exact q)
    refine jr.iald (i := (v1 - 1)) (x := v2) rfl (nlt rfl) rfl (Nat.le_of_ble_eq_true rfl) (by omega) (by omega) ((ju_c _ _ (by decide)).trans e2) ?_
    refine jr.putf (i := 147) (x := v2) rfl rfl (nlt rfl) rfl (nlt rfl) rfl rfl rfl rfl rfl ?_
    refine jr.aload_n rfl rfl ?_
    refine jr.iload_n rfl rfl ?_
    refine jr.bipush rfl (jbp _ (nlt rfl)) ?_
    refine jr.icmp_ne rfl rfl (by first | (refine rgb (by assumption) ?_; exact rfl) | omega) (rgl rfl) (fun h60 => ?_) (fun h60 => ?_)
    · refine jr.lconst (x := 0) rfl (by decide) ?_
      refine jr.putf (i := 142) (x := 0) rfl rfl (nlt rfl) rfl (nlt rfl) rfl rfl rfl rfl rfl ?_
      refine jr.aload_n rfl rfl ?_
      refine jr.iconst rfl ?_
      refine jr.putf (i := 131) (x := 0) rfl rfl (nlt rfl) rfl (nlt rfl) rfl rfl rfl rfl rfl ?_
      refine jr.aload_n rfl rfl ?_
      refine jr.iconst rfl ?_
      refine jr.iload_n rfl rfl ?_
      have y4 : (ju (ju (ju (ju M 598 111 (x + y)) 598 147 v2) 598 142 0) 598 131 0) 598 122 = v1 := ((ju_i _ _ (zne (by decide))).trans ((ju_i _ _ (zne (by decide))).trans ((ju_i _ _ (zne (by decide))).trans ((ju_i _ _ (zne (by decide))).trans e1))))
      refine jr_v rfl rfl (Or.inl rfl) rfl rfl (nlt rfl) rfl ⟨rfl, Nat.le_of_ble_eq_true rfl, Nat.le_of_ble_eq_true rfl⟩ rfl (jc.deep (r_leave (RI.u (RI.u (RI.u (RI.u hI_M (a := 598) (i := 111) (show (0 : Int) ≤ _ ∧ _ ≤ (2000 : Int) from by omega)) (a := 598) (i := 147) (show (0 : Int) ≤ _ ∧ _ ≤ (15 : Int) from by omega)) (a := 598) (i := 142) (show (-9223372036854775808 : Int) ≤ _ ∧ _ ≤ (9223372036854775807 : Int) from by omega)) (a := 598) (i := 131) (show (0 : Int) ≤ _ ∧ _ ≤ (400 : Int) from by omega)) (RH.o (RH.o (RH.o (RH.o hH_M (by decide) (by decide) (by decide)) (by decide) (by decide) (by decide)) (by decide) (by decide) (by decide)) (by decide) (by decide) (by decide)) (RF.o (RF.o (RF.o (RF.o hS_M (by decide) (by decide)) (by decide) (by decide)) (by decide) (by decide)) (by decide) (by decide))  (by omega) (by omega) (MX.o (MX.o (MX.o (MX.o hMX (by decide) (Or.inr (by decide))) (by decide) (Or.inr (by decide))) (by decide) (Or.inr (by decide))) (by decide) (Or.inr (by decide))) (FRS.fr hFR (fun i => ((ju_c _ _ (by decide)).trans ((ju_c _ _ (by decide)).trans ((ju_c _ _ (by decide)).trans ((ju_c _ _ (by decide)).trans (rfl)))))) (fun i => ((ju_c _ _ (by decide)).trans ((ju_c _ _ (by decide)).trans ((ju_c _ _ (by decide)).trans ((ju_c _ _ (by decide)).trans (rfl)))))) (fun i => ((ju_c _ _ (by decide)).trans ((ju_c _ _ (by decide)).trans ((ju_c _ _ (by decide)).trans ((ju_c _ _ (by decide)).trans (rfl)))))) ((ju_i _ _ (zne (by decide))).trans ((ju_i _ _ (zne (by decide))).trans ((ju_i _ _ (zne (by decide))).trans ((ju_i _ _ (zne (by decide))).trans (rfl))))) (by omega)) (by rw [((ju_i _ _ (zne (by decide))).trans ((ju_i _ _ (zne (by decide))).trans ((ju_i _ _ (zne (by decide))).trans ((ju_i _ _ (zne (by decide))).trans e1))))]; omega) (AS.o (AS.o (AS.o (AS.o hAS (by decide) (Or.inr (by decide))) (by decide) (Or.inr (by decide))) (by decide) (Or.inr (by decide))) (by decide) (Or.inr (by decide))) (by omega) (fun M3 hI_M3 hH_M3 hS_M3  w3_0 w3_1 w3_2 w3_3 => ?_)) (Nat.le_of_ble_eq_true rfl))
      have e5 : M3 598 131 = 0 := ((w3_3 131 (zne rfl) (zne rfl) (zne rfl) (zne rfl) (zne rfl) (zne rfl) (zne rfl)).trans (ju_same _ _ _ _))
      obtain ⟨v7, e7⟩ : ∃ z, M 598 136 = z := ⟨_, rfl⟩
      have b7 : 0 ≤ v7 ∧ v7 ≤ 1 := by rw [← e7]; exact hI_M 598 136 (Nat.le_of_ble_eq_true rfl)
      have y6 : (ju (ju (ju (ju M 598 111 (x + y)) 598 147 v2) 598 142 0) 598 131 0) 598 122 = v1 := ((ju_i _ _ (zne (by decide))).trans ((ju_i _ _ (zne (by decide))).trans ((ju_i _ _ (zne (by decide))).trans ((ju_i _ _ (zne (by decide))).trans e1))))
      have y8 : (ju (ju (ju (ju M 598 111 (x + y)) 598 147 v2) 598 142 0) 598 131 0) 598 136 = v7 := ((ju_i _ _ (zne (by decide))).trans ((ju_i _ _ (zne (by decide))).trans ((ju_i _ _ (zne (by decide))).trans ((ju_i _ _ (zne (by decide))).trans e7))))
      obtain ⟨v9, e9⟩ : ∃ z, M 598 136 = z := ⟨_, rfl⟩
      have b9 : 0 ≤ v9 ∧ v9 ≤ 1 := by rw [← e9]; exact hI_M 598 136 (Nat.le_of_ble_eq_true rfl)
      exact jr.vreturn rfl rfl (q _ hI_M3 hH_M3 hS_M3  w3_0 (by rcases w3_1 with z | ⟨y1, y2, y3, y4, y5, y6⟩; (exact Or.inl z); (have z1 := phi.fr (M := M) (M' := (ju (ju (ju (ju M 598 111 (x + y)) 598 147 v2) 598 142 0) 598 131 0)) ((ju_i _ _ (zne (by decide))).trans ((ju_i _ _ (zne (by decide))).trans ((ju_i _ _ (zne (by decide))).trans ((ju_i _ _ (zne (by decide))).trans (rfl))))) (fun i => ((ju_c _ _ (by decide)).trans ((ju_c _ _ (by decide)).trans ((ju_c _ _ (by decide)).trans ((ju_c _ _ (by decide)).trans (rfl)))))); exact Or.inr ⟨by omega, y2, y3, y4, y5, by omega⟩)) (e5) (fun a i f598 f602 f624 f670 f671 f672 f673 f680 f683 f684 => ((w3_2 a i f598 f602 f624 f670 f671 f672 f673 f680 f683 f684).trans ((ju_c _ _ f598).trans ((ju_c _ _ f598).trans ((ju_c _ _ f598).trans ((ju_c _ _ f598).trans (hF_M a i f598 f602 f624 f670 f671 f672 f673 f680 f683 f684))))))) (fun i g112 g122 g132 g134 g136 g137 g138 g111 g131 g142 g147 => ((w3_3 i g112 g122 g132 g134 g136 g137 g138).trans ((ju_i _ _ g131).trans ((ju_i _ _ g142).trans ((ju_i _ _ g147).trans ((ju_i _ _ g111).trans (hG_M i g112 g122 g132 g134 g136 g137 g138 g111 g131 g142 g147))))))))
    · refine jr.aload_n rfl rfl ?_
      obtain ⟨v10, e10⟩ : ∃ z, M 598 139 = z := ⟨_, rfl⟩
      have b10 : (-9223372036854775808) ≤ v10 ∧ v10 ≤ 9223372036854775807 := by rw [← e10]; exact hI_M 598 139 (Nat.le_of_ble_eq_true rfl)
      refine jr.getf (i := 139) (x := v10) (v := .long (Int64.ofInt (v10))) rfl rfl (nlt rfl) rfl (nlt rfl) rfl rfl ((ju_i _ _ (zne (by decide))).trans ((ju_i _ _ (zne (by decide))).trans e10)) rfl ?_
      refine jr.goto rfl rfl ?_
      refine jr.putf (i := 142) (x := v10) rfl rfl (nlt rfl) rfl (nlt rfl) rfl rfl rfl rfl rfl ?_
      refine jr.aload_n rfl rfl ?_
      refine jr.iconst rfl ?_
      refine jr.putf (i := 131) (x := 0) rfl rfl (nlt rfl) rfl (nlt rfl) rfl rfl rfl rfl rfl ?_
      refine jr.aload_n rfl rfl ?_
      refine jr.iconst rfl ?_
      refine jr.iload_n rfl rfl ?_
      have y12 : (ju (ju (ju (ju M 598 111 (x + y)) 598 147 v2) 598 142 v10) 598 131 0) 598 122 = v1 := ((ju_i _ _ (zne (by decide))).trans ((ju_i _ _ (zne (by decide))).trans ((ju_i _ _ (zne (by decide))).trans ((ju_i _ _ (zne (by decide))).trans e1))))
      refine jr_v rfl rfl (Or.inl rfl) rfl rfl (nlt rfl) rfl ⟨rfl, Nat.le_of_ble_eq_true rfl, Nat.le_of_ble_eq_true rfl⟩ rfl (jc.deep (r_leave (RI.u (RI.u (RI.u (RI.u hI_M (a := 598) (i := 111) (show (0 : Int) ≤ _ ∧ _ ≤ (2000 : Int) from by omega)) (a := 598) (i := 147) (show (0 : Int) ≤ _ ∧ _ ≤ (15 : Int) from by omega)) (a := 598) (i := 142) (show (-9223372036854775808 : Int) ≤ _ ∧ _ ≤ (9223372036854775807 : Int) from by omega)) (a := 598) (i := 131) (show (0 : Int) ≤ _ ∧ _ ≤ (400 : Int) from by omega)) (RH.o (RH.o (RH.o (RH.o hH_M (by decide) (by decide) (by decide)) (by decide) (by decide) (by decide)) (by decide) (by decide) (by decide)) (by decide) (by decide) (by decide)) (RF.o (RF.o (RF.o (RF.o hS_M (by decide) (by decide)) (by decide) (by decide)) (by decide) (by decide)) (by decide) (by decide))  (by omega) (by omega) (MX.o (MX.o (MX.o (MX.o hMX (by decide) (Or.inr (by decide))) (by decide) (Or.inr (by decide))) (by decide) (Or.inr (by decide))) (by decide) (Or.inr (by decide))) (FRS.fr hFR (fun i => ((ju_c _ _ (by decide)).trans ((ju_c _ _ (by decide)).trans ((ju_c _ _ (by decide)).trans ((ju_c _ _ (by decide)).trans (rfl)))))) (fun i => ((ju_c _ _ (by decide)).trans ((ju_c _ _ (by decide)).trans ((ju_c _ _ (by decide)).trans ((ju_c _ _ (by decide)).trans (rfl)))))) (fun i => ((ju_c _ _ (by decide)).trans ((ju_c _ _ (by decide)).trans ((ju_c _ _ (by decide)).trans ((ju_c _ _ (by decide)).trans (rfl)))))) ((ju_i _ _ (zne (by decide))).trans ((ju_i _ _ (zne (by decide))).trans ((ju_i _ _ (zne (by decide))).trans ((ju_i _ _ (zne (by decide))).trans (rfl))))) (by omega)) (by rw [((ju_i _ _ (zne (by decide))).trans ((ju_i _ _ (zne (by decide))).trans ((ju_i _ _ (zne (by decide))).trans ((ju_i _ _ (zne (by decide))).trans e1))))]; omega) (AS.o (AS.o (AS.o (AS.o hAS (by decide) (Or.inr (by decide))) (by decide) (Or.inr (by decide))) (by decide) (Or.inr (by decide))) (by decide) (Or.inr (by decide))) (by omega) (fun M11 hI_M11 hH_M11 hS_M11  w11_0 w11_1 w11_2 w11_3 => ?_)) (Nat.le_of_ble_eq_true rfl))
      have e13 : M11 598 131 = 0 := ((w11_3 131 (zne rfl) (zne rfl) (zne rfl) (zne rfl) (zne rfl) (zne rfl) (zne rfl)).trans (ju_same _ _ _ _))
      obtain ⟨v15, e15⟩ : ∃ z, M 598 136 = z := ⟨_, rfl⟩
      have b15 : 0 ≤ v15 ∧ v15 ≤ 1 := by rw [← e15]; exact hI_M 598 136 (Nat.le_of_ble_eq_true rfl)
      have y14 : (ju (ju (ju (ju M 598 111 (x + y)) 598 147 v2) 598 142 v10) 598 131 0) 598 122 = v1 := ((ju_i _ _ (zne (by decide))).trans ((ju_i _ _ (zne (by decide))).trans ((ju_i _ _ (zne (by decide))).trans ((ju_i _ _ (zne (by decide))).trans e1))))
      have y16 : (ju (ju (ju (ju M 598 111 (x + y)) 598 147 v2) 598 142 v10) 598 131 0) 598 136 = v15 := ((ju_i _ _ (zne (by decide))).trans ((ju_i _ _ (zne (by decide))).trans ((ju_i _ _ (zne (by decide))).trans ((ju_i _ _ (zne (by decide))).trans e15))))
      obtain ⟨v17, e17⟩ : ∃ z, M 598 136 = z := ⟨_, rfl⟩
      have b17 : 0 ≤ v17 ∧ v17 ≤ 1 := by rw [← e17]; exact hI_M 598 136 (Nat.le_of_ble_eq_true rfl)
      exact jr.vreturn rfl rfl (q _ hI_M11 hH_M11 hS_M11  w11_0 (by rcases w11_1 with z | ⟨y1, y2, y3, y4, y5, y6⟩; (exact Or.inl z); (have z1 := phi.fr (M := M) (M' := (ju (ju (ju (ju M 598 111 (x + y)) 598 147 v2) 598 142 v10) 598 131 0)) ((ju_i _ _ (zne (by decide))).trans ((ju_i _ _ (zne (by decide))).trans ((ju_i _ _ (zne (by decide))).trans ((ju_i _ _ (zne (by decide))).trans (rfl))))) (fun i => ((ju_c _ _ (by decide)).trans ((ju_c _ _ (by decide)).trans ((ju_c _ _ (by decide)).trans ((ju_c _ _ (by decide)).trans (rfl)))))); exact Or.inr ⟨by omega, y2, y3, y4, y5, by omega⟩)) (e13) (fun a i f598 f602 f624 f670 f671 f672 f673 f680 f683 f684 => ((w11_2 a i f598 f602 f624 f670 f671 f672 f673 f680 f683 f684).trans ((ju_c _ _ f598).trans ((ju_c _ _ f598).trans ((ju_c _ _ f598).trans ((ju_c _ _ f598).trans (hF_M a i f598 f602 f624 f670 f671 f672 f673 f680 f683 f684))))))) (fun i g112 g122 g132 g134 g136 g137 g138 g111 g131 g142 g147 => ((w11_3 i g112 g122 g132 g134 g136 g137 g138).trans ((ju_i _ _ g131).trans ((ju_i _ _ g142).trans ((ju_i _ _ g147).trans ((ju_i _ _ g111).trans (hG_M i g112 g122 g132 g134 g136 g137 g138 g111 g131 g142 g147))))))))
theorem r_raise {A : Nat → Option (Nat × (Nat → Int32))} {Q : Option Value → jm → Prop} {L n : Int} {ht : Int → Int} {M : jm} (hI_M : RI M) (hH_M : RH M) (hS_M : RF M) {m : Int} (h_m : 1 ≤ m ∧ m ≤ 8) (p0 : MX M ht n) (p1 : FRS M ht n (M 598 122)) (p2 : 1 ≤ M 598 122 ∧ M 598 122 ≤ 8) (p3 : AS M L) (p4 : L ≤ 2000000000) (q : ∀ (M' : jm), RI M' → RH M' → RF M' → AS M' L → ((M' 598 136 = 1) ∨ (M' 598 136 = M 598 136 ∧ FRS M' ht n (M' 598 122) ∧ 1 ≤ M' 598 122 ∧ M' 598 122 ≤ 8 ∧ REr (M' 654) ht n (M' 598 132) ∧ phi M' < phi M)) → M' 598 131 = 0 → (∀ (a : Nat) (i : Int), a ≠ 598 → a ≠ 602 → a ≠ 624 → a ≠ 670 → a ≠ 671 → a ≠ 672 → a ≠ 673 → a ≠ 680 → a ≠ 683 → a ≠ 684 → M' a i = M a i) → (∀ (i : Int), i ≠ 112 → i ≠ 122 → i ≠ 132 → i ≠ 134 → i ≠ 136 → i ≠ 137 → i ≠ 138 → i ≠ 111 → i ≠ 131 → i ≠ 142 → i ≠ 147 → M' 598 i = M 598 i) → Q none M') : jc A 6 378 [.ref (598), .int (Int32.ofInt (m))] M Q := by
  have hMX := p0
  have hFR := p1
  have hAS := p3
  refine jc_of (m := xm_378) rfl (Nat.le_of_ble_eq_true rfl) rfl ?_
  refine jr.aload_n rfl rfl ?_
  obtain ⟨v1, e1⟩ : ∃ z, M 598 111 = z := ⟨_, rfl⟩
  have b1 : 0 ≤ v1 ∧ v1 ≤ 2000 := by rw [← e1]; exact hI_M 598 111 (Nat.le_of_ble_eq_true rfl)
  refine jr.getf (i := 111) (x := v1) (v := .int (Int32.ofInt (v1))) rfl rfl (nlt rfl) rfl (nlt rfl) rfl rfl e1 rfl ?_
  refine jr.sipush rfl (by decide) ?_
  refine jr.icmp_ne rfl rfl (by first | (refine rgb (by assumption) ?_; exact rfl) | omega) (rgl rfl) (fun h7 => ?_) (fun h7 => ?_)
  · have sx7 : v1 ≤ (1999 : Int) := by omega
    clear h7
    refine jr.iload_n rfl rfl ?_
    refine jr.istore_n (ls' := [_, _, _]) rfl (nlt rfl) rfl ?_
    refine jr.aload_n rfl rfl ?_
    refine jr.dup rfl rfl ?_
    refine jr.getf (i := 111) (x := v1) (v := .int (Int32.ofInt (v1))) rfl rfl (nlt rfl) rfl (nlt rfl) rfl rfl e1 rfl ?_
    refine jr.aload_n rfl rfl ?_
    refine jr.getf (i := 111) (x := v1) (v := .int (Int32.ofInt (v1))) rfl rfl (nlt rfl) rfl (nlt rfl) rfl rfl e1 rfl ?_
    refine jr.sipush rfl (by decide) ?_
    refine jr.icmp_ne rfl rfl (by first | (refine rgb (by assumption) ?_; exact rfl) | omega) (rgl rfl) (fun h29 => ?_) (fun h29 => ?_)
    · refine jr.iconst rfl ?_
      obtain ⟨v2, e2⟩ : ∃ z, M 598 122 = z := ⟨_, rfl⟩
      have b2 : 0 ≤ v2 ∧ v2 ≤ 9 := by rw [← e2]; exact hI_M 598 122 (Nat.le_of_ble_eq_true rfl)
      refine jr.pick (ls := [_, _]) [0, 1] rfl rfl ?_
      exact r_raise_L37 q M m v1 1 hI_M hH_M hS_M  (fun a i f598 f602 f624 f670 f671 f672 f673 f680 f683 f684 => rfl) (fun i g112 g122 g132 g134 g136 g137 g138 g111 g131 g142 g147 => rfl) (by omega) (by omega) (by omega) (by omega) hMX hFR (by rw [e2] <;> omega) hAS (by omega) rfl
    · exact absurd (by omega) h29
  · refine jr.bipush rfl (jbp _ (nlt rfl)) ?_
    refine jr.goto rfl rfl ?_
    refine jr.istore_n (ls' := [_, _, _]) rfl (nlt rfl) rfl ?_
    refine jr.aload_n rfl rfl ?_
    refine jr.dup rfl rfl ?_
    refine jr.getf (i := 111) (x := v1) (v := .int (Int32.ofInt (v1))) rfl rfl (nlt rfl) rfl (nlt rfl) rfl rfl e1 rfl ?_
    refine jr.aload_n rfl rfl ?_
    refine jr.getf (i := 111) (x := v1) (v := .int (Int32.ofInt (v1))) rfl rfl (nlt rfl) rfl (nlt rfl) rfl rfl e1 rfl ?_
    refine jr.sipush rfl (by decide) ?_
    refine jr.icmp_ne rfl rfl (by first | (refine rgb (by assumption) ?_; exact rfl) | omega) (rgl rfl) (fun h29 => ?_) (fun h29 => ?_)
    · exact absurd h29 (by omega)
    · refine jr.iconst rfl ?_
      refine jr.goto rfl rfl ?_
      obtain ⟨v3, e3⟩ : ∃ z, M 598 122 = z := ⟨_, rfl⟩
      have b3 : 0 ≤ v3 ∧ v3 ≤ 9 := by rw [← e3]; exact hI_M 598 122 (Nat.le_of_ble_eq_true rfl)
      refine jr.pick (ls := [_, _]) [0, 1] rfl rfl ?_
      exact r_raise_L37 q M 8 v1 0 hI_M hH_M hS_M  (fun a i f598 f602 f624 f670 f671 f672 f673 f680 f683 f684 => rfl) (fun i g112 g122 g132 g134 g136 g137 g138 g111 g131 g142 g147 => rfl) (by omega) (by omega) (by omega) (by omega) hMX hFR (by rw [e3] <;> omega) hAS (by omega) rfl
end
