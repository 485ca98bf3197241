/-! ===== the reference: contracts, 37.mc ===== -/
/-- what is laid aside, and the logs -/
def AS (M : jm) (L : Int) : Prop := (0 ≤ M 598 112 ∧ M 598 112 ≤ L) ∧ ∀ f j : Int, 0 ≤ f → 0 ≤ j → j < 102 → (8 ≤ j ∧ j < 12 → 0 ≤ M 685 (102 * f + j) ∧ M 685 (102 * f + j) ≤ 1000) ∧ (12 ≤ j ∧ j < 16 → 0 ≤ M 685 (102 * f + j) ∧ M 685 (102 * f + j) ≤ 16) ∧ (j = 100 → 0 ≤ M 685 (102 * f + j) ∧ M 685 (102 * f + j) ≤ L)
theorem AS.fr {M M' : jm} {L : Int} (h : AS M L) (e : ∀ i : Int, M' 685 i = M 685 i) (g : M' 598 112 = M 598 112) : AS M' L := by
  unfold AS at h ⊢
  rw [g, show M' 685 = M 685 from funext e]
  exact h
theorem AS.o {M : jm} {L : Int} (h : AS M L) {a : Nat} {i v : Int} (h1 : 685 ≠ a) (h2 : 598 ≠ a ∨ 112 ≠ i) : AS (ju M a i v) L := by
  refine h.fr (fun j => ju_c M v h1) ?_
  rcases h2 with h2 | h2
  · exact ju_c M v h2
  · exact ju_i M v h2
theorem AS.l {M : jm} {L : Int} (h : AS M L) {v : Int} (hv : 0 ≤ v ∧ v ≤ L) : AS (ju M 598 112 v) L := by
  unfold AS at h ⊢
  rw [ju_same, jw_o (by decide)]
  exact ⟨hv, h.2⟩
theorem AS.w {M : jm} {L : Int} (h : AS M L) {i v : Int} (hv : ∀ f j : Int, 0 ≤ f → 0 ≤ j → j < 102 → i = 102 * f + j → (8 ≤ j ∧ j < 12 → 0 ≤ v ∧ v ≤ 1000) ∧ (12 ≤ j ∧ j < 16 → 0 ≤ v ∧ v ≤ 16) ∧ (j = 100 → 0 ≤ v ∧ v ≤ L)) : AS (ju M 685 i v) L := by
  refine ⟨by rw [ju_c _ _ (by decide)]; exact h.1, fun f j f0 j0 j1 => ?_⟩
  by_cases e : 102 * f + j = i
  · rw [e, ju_same]
    exact hv f j f0 j0 j1 e.symm
  · rw [ju_i _ _ e]
    exact h.2 f j f0 j0 j1
theorem AS.up {M : jm} {L L' : Int} (h : AS M L) (hl : L ≤ L') : AS M L' := by
  obtain ⟨h1, h2⟩ := h
  refine ⟨⟨h1.1, by omega⟩, fun f j f0 j0 j1 => ?_⟩
  obtain ⟨a, b, c⟩ := h2 f j f0 j0 j1
  exact ⟨a, b, fun q => by have := c q; omega⟩
theorem AS.at {M : jm} {L : Int} (h : AS M L) {f j i : Int} (hf : 0 ≤ f) (hj : 0 ≤ j ∧ j < 102) (e : i = 102 * f + j) : (8 ≤ j ∧ j < 12 → 0 ≤ M 685 i ∧ M 685 i ≤ 1000) ∧ (12 ≤ j ∧ j < 16 → 0 ≤ M 685 i ∧ M 685 i ≤ 16) ∧ (j = 100 → 0 ≤ M 685 i ∧ M 685 i ≤ L) := by
  rw [e]
  exact h.2 f j hf hj.1 hj.2
theorem r_layAside_L115 {A : Nat → Option (Nat × (Nat → Int32))} {Q : Option Value → jm → Prop} {L : Int} {M0 : jm} (q : ∀ (M' : jm), RI M' → RH M' → RF M' → AS M' L → (∀ (a : Nat) (i : Int), a ≠ 685 → M' a i = M0 a i) → Q none M') : ∀ (nM : Nat) (M : jm) (k : Int) (f : Int), RI M → RH M → RF M → (∀ (a : Nat) (i : Int), a ≠ 685 → M a i = M0 a i) → 0 ≤ k ∧ k ≤ 20 → 0 ≤ f ∧ f ≤ 8 → AS M L → L ≤ 2000000000 → 20 - k ≤ nM → jr A 3 xm_373 115 [(3, .int (Int32.ofInt (k))), (1, .int (Int32.ofInt (f))), (2, .int (Int32.ofInt (102 * f))), (0, .ref (598))] [] M Q := by
  intro nM
  induction nM using Nat.strongRecOn with
  | ind nM ih =>
    intro M k f hI_M hH_M hS_M hF_M h_k h_f hy0 hy1 hm
    have hAS := hy0
    have hl := hy0.1
    refine jr.iload_n rfl rfl ?_
    refine jr.bipush rfl (by decide) ?_
    refine jr.icmp_ge rfl rfl (by omega) (by omega) (fun h118 => ?_) (fun h118 => ?_)
    · refine jr.aload_n rfl rfl ?_
      refine jr.getf (i := 129) (v := .ref 685) rfl rfl (by decide) rfl (by decide) rfl rfl rfl rfl ?_
      refine jr.iload_n rfl rfl ?_
      refine jr.bipush rfl (by decide) ?_
      refine jr.iadd rfl ?_
      refine jr.aload_n rfl rfl ?_
      obtain ⟨v1, e1⟩ : ∃ z, M 598 112 = z := ⟨_, rfl⟩
      have b1 : 0 ≤ v1 ∧ v1 ≤ 2147483647 := by rw [← e1]; exact hI_M 598 112 (by decide)
      refine jr.getf (i := 112) (x := v1) (v := .int (Int32.ofInt (v1))) rfl rfl (by decide) rfl (by decide) rfl rfl e1 rfl ?_
      refine jr.i2l rfl (by omega) ?_
      refine jr.last (i := ((102 * f) + 100)) (x := v1) rfl (by decide) rfl (by decide) (by omega) (by omega) ?_
      refine jr.aload_n rfl rfl ?_
      refine jr.getf (i := 129) (v := .ref 685) rfl rfl (by decide) rfl (by decide) rfl rfl rfl rfl ?_
      refine jr.iload_n rfl rfl ?_
      refine jr.bipush rfl (by decide) ?_
      refine jr.iadd rfl ?_
      refine jr.aload_n rfl rfl ?_
      refine jr.aload_n rfl rfl ?_
      obtain ⟨v2, e2⟩ : ∃ z, M 598 133 = z := ⟨_, rfl⟩
      have b2 : 0 ≤ v2 ∧ v2 ≤ 23 := by rw [← e2]; exact hI_M 598 133 (by decide)
      refine jr.getf (i := 133) (x := v2) (v := .int (Int32.ofInt (v2))) rfl rfl (by decide) rfl (by decide) rfl rfl ((ju_c _ _ (by decide)).trans e2) rfl ?_
      refine jr_v rfl rfl (Or.inl rfl) rfl rfl (by decide) rfl ⟨rfl, Nat.le_of_ble_eq_true rfl, Nat.le_of_ble_eq_true rfl⟩ rfl (jc.deep (c_isThere (RI.u hI_M (a := 685) (i := ((102 * f) + 100)) (by rw [xri_row rfl rfl]; show (-9223372036854775808 : Int) ≤ _ ∧ _ ≤ (9223372036854775807 : Int); omega)) (by omega) (fun l171 u171 t171 => ?_) (fun n171 => ?_)) (by decide))
      · refine jr.if_eq rfl rfl (by omega) (fun h => absurd h (by decide)) (fun _ => ?_)
        refine jr.aload_n rfl rfl ?_
        refine jr.getf (i := 5) (v := .ref 602) rfl rfl (by decide) rfl (by decide) rfl rfl rfl rfl ?_
        refine jr.aload_n rfl rfl ?_
        refine jr.getf (i := 133) (x := v2) (v := .int (Int32.ofInt (v2))) rfl rfl (by decide) rfl (by decide) rfl rfl ((ju_c _ _ (by decide)).trans e2) rfl ?_
        obtain ⟨v3, e3⟩ : ∃ z, M 602 v2 = z := ⟨_, rfl⟩
        have b3 : (-9223372036854775808) ≤ v3 ∧ v3 ≤ 9223372036854775807 := by rw [← e3]; exact (by have q := hI_M 602 v2 (by decide); rw [xri_row rfl rfl] at q; exact q)
        refine jr.lald (i := v2) (x := v3) rfl (by decide) rfl (by decide) (by omega) (by omega) ((ju_c _ _ (by decide)).trans e3) ?_
        refine jr.goto rfl rfl ?_
        refine jr.last (i := ((102 * f) + 101)) (x := v3) rfl (by decide) rfl (by decide) (by omega) (by omega) ?_
        exact jr.vreturn rfl rfl (q _ (RI.u (RI.u hI_M (a := 685) (i := ((102 * f) + 100)) (by rw [xri_row rfl rfl]; show (-9223372036854775808 : Int) ≤ _ ∧ _ ≤ (9223372036854775807 : Int); omega)) (a := 685) (i := ((102 * f) + 101)) (by rw [xri_row rfl rfl]; show (-9223372036854775808 : Int) ≤ _ ∧ _ ≤ (9223372036854775807 : Int); omega)) (RH.o (RH.o hH_M (by decide) (by decide) (by decide)) (by decide) (by decide) (by decide)) (RF.o (RF.o hS_M (by decide) (by decide)) (by decide) (by decide))  (AS.w (AS.w hAS (fun g j g0 j0 j1 e => ⟨fun q => by omega, fun q => by omega, fun q => by omega⟩)) (fun g j g0 j0 j1 e => ⟨fun q => by omega, fun q => by omega, fun q => by omega⟩)) (fun a i f685 => ((ju_c _ _ f685).trans ((ju_c _ _ f685).trans (hF_M a i f685)))))
      · refine jr.if_eq rfl rfl (by omega) (fun _ => ?_) (fun h => absurd (by decide) h)
        refine jr.lconst (x := 0) rfl (by decide) ?_
        refine jr.last (i := ((102 * f) + 101)) (x := 0) rfl (by decide) rfl (by decide) (by omega) (by omega) ?_
        exact jr.vreturn rfl rfl (q _ (RI.u (RI.u hI_M (a := 685) (i := ((102 * f) + 100)) (by rw [xri_row rfl rfl]; show (-9223372036854775808 : Int) ≤ _ ∧ _ ≤ (9223372036854775807 : Int); omega)) (a := 685) (i := ((102 * f) + 101)) (by rw [xri_row rfl rfl]; show (-9223372036854775808 : Int) ≤ _ ∧ _ ≤ (9223372036854775807 : Int); omega)) (RH.o (RH.o hH_M (by decide) (by decide) (by decide)) (by decide) (by decide) (by decide)) (RF.o (RF.o hS_M (by decide) (by decide)) (by decide) (by decide))  (AS.w (AS.w hAS (fun g j g0 j0 j1 e => ⟨fun q => by omega, fun q => by omega, fun q => by omega⟩)) (fun g j g0 j0 j1 e => ⟨fun q => by omega, fun q => by omega, fun q => by omega⟩)) (fun a i f685 => ((ju_c _ _ f685).trans ((ju_c _ _ f685).trans (hF_M a i f685)))))
    · refine jr.aload_n rfl rfl ?_
      refine jr.getf (i := 129) (v := .ref 685) rfl rfl (by decide) rfl (by decide) rfl rfl rfl rfl ?_
      refine jr.iload_n rfl rfl ?_
      refine jr.bipush rfl (by decide) ?_
      refine jr.iadd rfl ?_
      refine jr.iload_n rfl rfl ?_
      refine jr.iadd rfl ?_
      refine jr.aload_n rfl rfl ?_
      refine jr.getf (i := 113) (v := .ref 670) rfl rfl (by decide) rfl (by decide) rfl rfl rfl rfl ?_
      refine jr.iload_n rfl rfl ?_
      obtain ⟨v4, e4⟩ : ∃ z, M 670 k = z := ⟨_, rfl⟩
      have b4 : (-9223372036854775808) ≤ v4 ∧ v4 ≤ 9223372036854775807 := by rw [← e4]; exact (by have q := hI_M 670 k (by decide); rw [xri_row rfl rfl] at q; exact q)
      refine jr.lald (i := k) (x := v4) rfl (by decide) rfl (by decide) (by omega) (by omega) e4 ?_
      refine jr.last (i := (((102 * f) + 80) + k)) (x := v4) rfl (by decide) rfl (by decide) (by omega) (by omega) ?_
      refine jr.iinc rfl rfl (by decide) rfl ?_
      refine jr.goto rfl rfl ?_
      refine jr.pick [0, 1, 2, 3] rfl rfl ?_
      exact ih (nM - 1) (by omega) (ju M 685 (((102 * f) + 80) + k) v4) (k + 1) f (RI.u hI_M (a := 685) (i := (((102 * f) + 80) + k)) (by rw [xri_row rfl rfl]; show (-9223372036854775808 : Int) ≤ _ ∧ _ ≤ (9223372036854775807 : Int); omega)) (RH.o hH_M (by decide) (by decide) (by decide)) (RF.o hS_M (by decide) (by decide))  (fun a i f685 => ((ju_c _ _ f685).trans (hF_M a i f685))) (by omega) (by omega) (AS.w hAS (fun g j g0 j0 j1 e => ⟨fun q => by omega, fun q => by omega, fun q => by omega⟩)) (by omega) (by omega)
theorem r_layAside_L84 {A : Nat → Option (Nat × (Nat → Int32))} {Q : Option Value → jm → Prop} {L : Int} {M0 : jm} (q : ∀ (M' : jm), RI M' → RH M' → RF M' → AS M' L → (∀ (a : Nat) (i : Int), a ≠ 685 → M' a i = M0 a i) → Q none M') : ∀ (nM : Nat) (M : jm) (k : Int) (f : Int), RI M → RH M → RF M → (∀ (a : Nat) (i : Int), a ≠ 685 → M a i = M0 a i) → 0 ≤ k ∧ k ≤ 64 → 0 ≤ f ∧ f ≤ 8 → AS M L → L ≤ 2000000000 → 64 - k ≤ nM → jr A 3 xm_373 84 [(3, .int (Int32.ofInt (k))), (1, .int (Int32.ofInt (f))), (2, .int (Int32.ofInt (102 * f))), (0, .ref (598))] [] M Q := by
  intro nM
  induction nM using Nat.strongRecOn with
  | ind nM ih =>
    intro M k f hI_M hH_M hS_M hF_M h_k h_f hy0 hy1 hm
    have hAS := hy0
    have hl := hy0.1
    refine jr.iload_n rfl rfl ?_
    refine jr.bipush rfl (by decide) ?_
    refine jr.icmp_ge rfl rfl (by omega) (by omega) (fun h87 => ?_) (fun h87 => ?_)
    · refine jr.iconst rfl ?_
      refine jr.istore_n rfl (by decide) rfl ?_
      refine jr.pick [0, 1, 2, 3] rfl rfl ?_
      exact r_layAside_L115 q 20 M 0 f hI_M hH_M hS_M  (fun a i f685 => (hF_M a i f685)) (by omega) (by omega) hAS (by omega) (by omega)
    · refine jr.aload_n rfl rfl ?_
      refine jr.getf (i := 129) (v := .ref 685) rfl rfl (by decide) rfl (by decide) rfl rfl rfl rfl ?_
      refine jr.iload_n rfl rfl ?_
      refine jr.bipush rfl (by decide) ?_
      refine jr.iadd rfl ?_
      refine jr.iload_n rfl rfl ?_
      refine jr.iadd rfl ?_
      refine jr.aload_n rfl rfl ?_
      refine jr.getf (i := 116) (v := .ref 673) rfl rfl (by decide) rfl (by decide) rfl rfl rfl rfl ?_
      refine jr.iload_n rfl rfl ?_
      obtain ⟨v1, e1⟩ : ∃ z, M 673 k = z := ⟨_, rfl⟩
      have b1 : (-9223372036854775808) ≤ v1 ∧ v1 ≤ 9223372036854775807 := by rw [← e1]; exact (by have q := hI_M 673 k (by decide); rw [xri_row rfl rfl] at q; exact q)
      refine jr.lald (i := k) (x := v1) rfl (by decide) rfl (by decide) (by omega) (by omega) e1 ?_
      refine jr.last (i := (((102 * f) + 16) + k)) (x := v1) rfl (by decide) rfl (by decide) (by omega) (by omega) ?_
      refine jr.iinc rfl rfl (by decide) rfl ?_
      refine jr.goto rfl rfl ?_
      refine jr.pick [0, 1, 2, 3] rfl rfl ?_
      exact ih (nM - 1) (by omega) (ju M 685 (((102 * f) + 16) + k) v1) (k + 1) f (RI.u hI_M (a := 685) (i := (((102 * f) + 16) + k)) (by rw [xri_row rfl rfl]; show (-9223372036854775808 : Int) ≤ _ ∧ _ ≤ (9223372036854775807 : Int); omega)) (RH.o hH_M (by decide) (by decide) (by decide)) (RF.o hS_M (by decide) (by decide))  (fun a i f685 => ((ju_c _ _ f685).trans (hF_M a i f685))) (by omega) (by omega) (AS.w hAS (fun g j g0 j0 j1 e => ⟨fun q => by omega, fun q => by omega, fun q => by omega⟩)) (by omega) (by omega)
theorem r_layAside_L35 {A : Nat → Option (Nat × (Nat → Int32))} {Q : Option Value → jm → Prop} {L : Int} {M0 : jm} (q : ∀ (M' : jm), RI M' → RH M' → RF M' → AS M' L → (∀ (a : Nat) (i : Int), a ≠ 685 → M' a i = M0 a i) → Q none M') : ∀ (nM : Nat) (M : jm) (k : Int) (f : Int), RI M → RH M → RF M → (∀ (a : Nat) (i : Int), a ≠ 685 → M a i = M0 a i) → 0 ≤ k ∧ k ≤ 4 → 0 ≤ f ∧ f ≤ 8 → AS M L → L ≤ 2000000000 → 4 - k ≤ nM → jr A 3 xm_373 35 [(3, .int (Int32.ofInt (k))), (1, .int (Int32.ofInt (f))), (2, .int (Int32.ofInt (102 * f))), (0, .ref (598))] [] M Q := by
  intro nM
  induction nM using Nat.strongRecOn with
  | ind nM ih =>
    intro M k f hI_M hH_M hS_M hF_M h_k h_f hy0 hy1 hm
    have hAS := hy0
    have hl := hy0.1
    refine jr.iload_n rfl rfl ?_
    refine jr.iconst rfl ?_
    refine jr.icmp_ge rfl rfl (by omega) (by omega) (fun h37 => ?_) (fun h37 => ?_)
    · refine jr.iconst rfl ?_
      refine jr.istore_n rfl (by decide) rfl ?_
      refine jr.pick [0, 1, 2, 3] rfl rfl ?_
      exact r_layAside_L84 q 64 M 0 f hI_M hH_M hS_M  (fun a i f685 => (hF_M a i f685)) (by omega) (by omega) hAS (by omega) (by omega)
    · refine jr.aload_n rfl rfl ?_
      refine jr.getf (i := 129) (v := .ref 685) rfl rfl (by decide) rfl (by decide) rfl rfl rfl rfl ?_
      refine jr.iload_n rfl rfl ?_
      refine jr.bipush rfl (by decide) ?_
      refine jr.iadd rfl ?_
      refine jr.iload_n rfl rfl ?_
      refine jr.iadd rfl ?_
      refine jr.aload_n rfl rfl ?_
      refine jr.getf (i := 36) (v := .ref 624) rfl rfl (by decide) rfl (by decide) rfl rfl rfl rfl ?_
      refine jr.iload_n rfl rfl ?_
      obtain ⟨v1, e1⟩ : ∃ z, M 624 k = z := ⟨_, rfl⟩
      have b1 : 0 ≤ v1 ∧ v1 ≤ 1000 := by rw [← e1]; exact (by have q := hI_M 624 k (by decide); rw [xri_row rfl rfl] at q; exact q)
      refine jr.iald (i := k) (x := v1) rfl (by decide) rfl (by decide) (by omega) (by omega) e1 ?_
      refine jr.i2l rfl (by omega) ?_
      refine jr.last (i := (((102 * f) + 8) + k)) (x := v1) rfl (by decide) rfl (by decide) (by omega) (by omega) ?_
      refine jr.aload_n rfl rfl ?_
      refine jr.getf (i := 129) (v := .ref 685) rfl rfl (by decide) rfl (by decide) rfl rfl rfl rfl ?_
      refine jr.iload_n rfl rfl ?_
      refine jr.bipush rfl (by decide) ?_
      refine jr.iadd rfl ?_
      refine jr.iload_n rfl rfl ?_
      refine jr.iadd rfl ?_
      refine jr.aload_n rfl rfl ?_
      refine jr.getf (i := 115) (v := .ref 672) rfl rfl (by decide) rfl (by decide) rfl rfl rfl rfl ?_
      refine jr.iload_n rfl rfl ?_
      obtain ⟨v2, e2⟩ : ∃ z, M 672 k = z := ⟨_, rfl⟩
      have b2 : 0 ≤ v2 ∧ v2 ≤ 16 := by rw [← e2]; exact (by have q := hI_M 672 k (by decide); rw [xri_row rfl rfl] at q; exact q)
      refine jr.iald (i := k) (x := v2) rfl (by decide) rfl (by decide) (by omega) (by omega) ((ju_c _ _ (by decide)).trans e2) ?_
      refine jr.i2l rfl (by omega) ?_
      refine jr.last (i := (((102 * f) + 12) + k)) (x := v2) rfl (by decide) rfl (by decide) (by omega) (by omega) ?_
      refine jr.iinc rfl rfl (by decide) rfl ?_
      refine jr.goto rfl rfl ?_
      refine jr.pick [0, 1, 2, 3] rfl rfl ?_
      exact ih (nM - 1) (by omega) (ju (ju M 685 (((102 * f) + 8) + k) v1) 685 (((102 * f) + 12) + k) v2) (k + 1) f (RI.u (RI.u hI_M (a := 685) (i := (((102 * f) + 8) + k)) (by rw [xri_row rfl rfl]; show (-9223372036854775808 : Int) ≤ _ ∧ _ ≤ (9223372036854775807 : Int); omega)) (a := 685) (i := (((102 * f) + 12) + k)) (by rw [xri_row rfl rfl]; show (-9223372036854775808 : Int) ≤ _ ∧ _ ≤ (9223372036854775807 : Int); omega)) (RH.o (RH.o hH_M (by decide) (by decide) (by decide)) (by decide) (by decide) (by decide)) (RF.o (RF.o hS_M (by decide) (by decide)) (by decide) (by decide))  (fun a i f685 => ((ju_c _ _ f685).trans ((ju_c _ _ f685).trans (hF_M a i f685)))) (by omega) (by omega) (AS.w (AS.w hAS (fun g j g0 j0 j1 e => ⟨fun q => by omega, fun q => by omega, fun q => by omega⟩)) (fun g j g0 j0 j1 e => ⟨fun q => by omega, fun q => by omega, fun q => by omega⟩)) (by omega) (by omega)
theorem r_layAside_L7 {A : Nat → Option (Nat × (Nat → Int32))} {Q : Option Value → jm → Prop} {L : Int} {M0 : jm} (q : ∀ (M' : jm), RI M' → RH M' → RF M' → AS M' L → (∀ (a : Nat) (i : Int), a ≠ 685 → M' a i = M0 a i) → Q none M') : ∀ (nM : Nat) (M : jm) (k : Int) (f : Int), RI M → RH M → RF M → (∀ (a : Nat) (i : Int), a ≠ 685 → M a i = M0 a i) → 0 ≤ k ∧ k ≤ 8 → 0 ≤ f ∧ f ≤ 8 → AS M L → L ≤ 2000000000 → 8 - k ≤ nM → jr A 3 xm_373 7 [(3, .int (Int32.ofInt (k))), (1, .int (Int32.ofInt (f))), (2, .int (Int32.ofInt (102 * f))), (0, .ref (598))] [] M Q := by
  intro nM
  induction nM using Nat.strongRecOn with
  | ind nM ih =>
    intro M k f hI_M hH_M hS_M hF_M h_k h_f hy0 hy1 hm
    have hAS := hy0
    have hl := hy0.1
    refine jr.iload_n rfl rfl ?_
    refine jr.bipush rfl (by decide) ?_
    refine jr.icmp_ge rfl rfl (by omega) (by omega) (fun h10 => ?_) (fun h10 => ?_)
    · refine jr.iconst rfl ?_
      refine jr.istore_n rfl (by decide) rfl ?_
      refine jr.pick [0, 1, 2, 3] rfl rfl ?_
      exact r_layAside_L35 q 4 M 0 f hI_M hH_M hS_M  (fun a i f685 => (hF_M a i f685)) (by omega) (by omega) hAS (by omega) (by omega)
    · refine jr.aload_n rfl rfl ?_
      refine jr.getf (i := 129) (v := .ref 685) rfl rfl (by decide) rfl (by decide) rfl rfl rfl rfl ?_
      refine jr.iload_n rfl rfl ?_
      refine jr.iload_n rfl rfl ?_
      refine jr.iadd rfl ?_
      refine jr.aload_n rfl rfl ?_
      refine jr.getf (i := 114) (v := .ref 671) rfl rfl (by decide) rfl (by decide) rfl rfl rfl rfl ?_
      refine jr.iload_n rfl rfl ?_
      obtain ⟨v1, e1⟩ : ∃ z, M 671 k = z := ⟨_, rfl⟩
      have b1 : (-9223372036854775808) ≤ v1 ∧ v1 ≤ 9223372036854775807 := by rw [← e1]; exact (by have q := hI_M 671 k (by decide); rw [xri_row rfl rfl] at q; exact q)
      refine jr.lald (i := k) (x := v1) rfl (by decide) rfl (by decide) (by omega) (by omega) e1 ?_
      refine jr.last (i := ((102 * f) + k)) (x := v1) rfl (by decide) rfl (by decide) (by omega) (by omega) ?_
      refine jr.iinc rfl rfl (by decide) rfl ?_
      refine jr.goto rfl rfl ?_
      refine jr.pick [0, 1, 2, 3] rfl rfl ?_
      exact ih (nM - 1) (by omega) (ju M 685 ((102 * f) + k) v1) (k + 1) f (RI.u hI_M (a := 685) (i := ((102 * f) + k)) (by rw [xri_row rfl rfl]; show (-9223372036854775808 : Int) ≤ _ ∧ _ ≤ (9223372036854775807 : Int); omega)) (RH.o hH_M (by decide) (by decide) (by decide)) (RF.o hS_M (by decide) (by decide))  (fun a i f685 => ((ju_c _ _ f685).trans (hF_M a i f685))) (by omega) (by omega) (AS.w hAS (fun g j g0 j0 j1 e => ⟨fun q => by omega, fun q => by omega, fun q => by omega⟩)) (by omega) (by omega)
theorem r_layAside {A : Nat → Option (Nat × (Nat → Int32))} {Q : Option Value → jm → Prop} {L : Int} {M : jm} (hI_M : RI M) (hH_M : RH M) (hS_M : RF M) {f : Int} (h_f : 0 ≤ f ∧ f ≤ 8) (p0 : AS M L) (p1 : L ≤ 2000000000) (q : ∀ (M' : jm), RI M' → RH M' → RF M' → AS M' L → (∀ (a : Nat) (i : Int), a ≠ 685 → M' a i = M a i) → Q none M') : jc A 4 373 [.ref (598), .int (Int32.ofInt (f))] M Q := by
  have hAS := p0
  refine jc_of (m := xm_373) rfl (Nat.le_of_ble_eq_true rfl) rfl ?_
  refine jr.bipush rfl (by decide) ?_
  refine jr.iload_n rfl rfl ?_
  refine jr.imul rfl ?_
  refine jr.istore_n rfl (by decide) rfl ?_
  refine jr.iconst rfl ?_
  refine jr.istore_n rfl (by decide) rfl ?_
  refine jr.pick [0, 3, 1, 2] rfl rfl ?_
  exact r_layAside_L7 q 8 M 0 f hI_M hH_M hS_M  (fun a i f685 => rfl) (by omega) (by omega) hAS (by omega) (by omega)
theorem r_giveBack_L115 {A : Nat → Option (Nat × (Nat → Int32))} {Q : Option Value → jm → Prop} {L : Int} {M0 : jm} (q : ∀ (M' : jm), RI M' → RH M' → RF M' → AS M' L → (∀ (a : Nat) (i : Int), a ≠ 598 → a ≠ 602 → a ≠ 624 → a ≠ 670 → a ≠ 671 → a ≠ 672 → a ≠ 673 → M' a i = M0 a i) → (∀ (i : Int), i ≠ 112 → M' 598 i = M0 598 i) → Q none M') : ∀ (nM : Nat) (M : jm) (k : Int) (f : Int), RI M → RH M → RF M → (∀ (a : Nat) (i : Int), a ≠ 598 → a ≠ 602 → a ≠ 624 → a ≠ 670 → a ≠ 671 → a ≠ 672 → a ≠ 673 → M a i = M0 a i) → (∀ (i : Int), i ≠ 112 → M 598 i = M0 598 i) → 0 ≤ k ∧ k ≤ 20 → 0 ≤ f ∧ f ≤ 8 → AS M L → L ≤ 2000000000 → 20 - k ≤ nM → jr A 3 xm_374 115 [(3, .int (Int32.ofInt (k))), (1, .int (Int32.ofInt (f))), (2, .int (Int32.ofInt (102 * f))), (0, .ref (598))] [] M Q := by
  intro nM
  induction nM using Nat.strongRecOn with
  | ind nM ih =>
    intro M k f hI_M hH_M hS_M hF_M hG_M h_k h_f hy0 hy1 hm
    have hAS := hy0
    have hl := hy0.1
    obtain ⟨vl, hvl⟩ : ∃ z, M 685 ((102 * f) + 100) = z := ⟨_, rfl⟩
    have bl := AS.at hy0 (f := f) (j := 100) (i := (102 * f) + 100) (by omega) (by omega) (by omega)
    rw [hvl] at bl
    refine jr.iload_n rfl rfl ?_
    refine jr.bipush rfl (by decide) ?_
    refine jr.icmp_ge rfl rfl (by omega) (by omega) (fun h118 => ?_) (fun h118 => ?_)
    · refine jr.aload_n rfl rfl ?_
      refine jr.aload_n rfl rfl ?_
      refine jr.getf (i := 129) (v := .ref 685) rfl rfl (by decide) rfl (by decide) rfl rfl rfl rfl ?_
      refine jr.iload_n rfl rfl ?_
      refine jr.bipush rfl (by decide) ?_
      refine jr.iadd rfl ?_
      refine jr.lald (i := ((102 * f) + 100)) (x := vl) rfl (by decide) rfl (by decide) (by omega) (by omega) hvl ?_
      refine jr.l2i rfl ?_
      refine jr.putf (i := 112) (x := vl) rfl rfl (by decide) rfl (by decide) rfl rfl rfl rfl rfl ?_
      refine jr.aload_n rfl rfl ?_
      refine jr.aload_n rfl rfl ?_
      obtain ⟨v1, e1⟩ : ∃ z, M 598 133 = z := ⟨_, rfl⟩
      have b1 : 0 ≤ v1 ∧ v1 ≤ 23 := by rw [← e1]; exact hI_M 598 133 (by decide)
      refine jr.getf (i := 133) (x := v1) (v := .int (Int32.ofInt (v1))) rfl rfl (by decide) rfl (by decide) rfl rfl ((ju_i _ _ (by decide)).trans e1) rfl ?_
      refine jr_v rfl rfl (Or.inl rfl) rfl rfl (by decide) rfl ⟨rfl, Nat.le_of_ble_eq_true rfl, Nat.le_of_ble_eq_true rfl⟩ rfl (jc.deep (c_isThere (RI.u hI_M (a := 598) (i := 112) (show (0 : Int) ≤ _ ∧ _ ≤ (2147483647 : Int) from by omega)) (by omega) (fun l163 u163 t163 => ?_) (fun n163 => ?_)) (by decide))
      · refine jr.if_eq rfl rfl (by omega) (fun h => absurd h (by decide)) (fun _ => ?_)
        refine jr.aload_n rfl rfl ?_
        refine jr.getf (i := 5) (v := .ref 602) rfl rfl (by decide) rfl (by decide) rfl rfl rfl rfl ?_
        refine jr.aload_n rfl rfl ?_
        refine jr.getf (i := 133) (x := v1) (v := .int (Int32.ofInt (v1))) rfl rfl (by decide) rfl (by decide) rfl rfl ((ju_i _ _ (by decide)).trans e1) rfl ?_
        refine jr.aload_n rfl rfl ?_
        refine jr.getf (i := 129) (v := .ref 685) rfl rfl (by decide) rfl (by decide) rfl rfl rfl rfl ?_
        refine jr.iload_n rfl rfl ?_
        refine jr.bipush rfl (by decide) ?_
        refine jr.iadd rfl ?_
        obtain ⟨v2, e2⟩ : ∃ z, M 685 ((102 * f) + 101) = z := ⟨_, rfl⟩
        have b2 : (-9223372036854775808) ≤ v2 ∧ v2 ≤ 9223372036854775807 := by rw [← e2]; exact (by have q := hI_M 685 ((102 * f) + 101) (by decide); rw [xri_row rfl rfl] at q; exact q)
        refine jr.lald (i := ((102 * f) + 101)) (x := v2) rfl (by decide) rfl (by decide) (by omega) (by omega) ((ju_c _ _ (by decide)).trans e2) ?_
        refine jr.last (i := v1) (x := v2) rfl (by decide) rfl (by decide) (by omega) (by omega) ?_
        exact jr.vreturn rfl rfl (q _ (RI.u (RI.u hI_M (a := 598) (i := 112) (show (0 : Int) ≤ _ ∧ _ ≤ (2147483647 : Int) from by omega)) (a := 602) (i := v1) (by rw [xri_row rfl rfl]; show (-9223372036854775808 : Int) ≤ _ ∧ _ ≤ (9223372036854775807 : Int); omega)) (RH.o (RH.o hH_M (by decide) (by decide) (by decide)) (by decide) (by decide) (by decide)) (RF.o (RF.o hS_M (by decide) (by decide)) (by decide) (by decide))  (AS.o (AS.l hAS (by omega)) (by decide) (Or.inl (by decide))) (fun a i f598 f602 f624 f670 f671 f672 f673 => ((ju_c _ _ f602).trans ((ju_c _ _ f598).trans (hF_M a i f598 f602 f624 f670 f671 f672 f673)))) (fun i g112 => ((ju_c _ _ (by decide)).trans ((ju_i _ _ g112).trans (hG_M i g112)))))
      · refine jr.if_eq rfl rfl (by omega) (fun _ => ?_) (fun h => absurd (by decide) h)
        exact jr.vreturn rfl rfl (q _ (RI.u hI_M (a := 598) (i := 112) (show (0 : Int) ≤ _ ∧ _ ≤ (2147483647 : Int) from by omega)) (RH.o hH_M (by decide) (by decide) (by decide)) (RF.o hS_M (by decide) (by decide))  (AS.l hAS (by omega)) (fun a i f598 f602 f624 f670 f671 f672 f673 => ((ju_c _ _ f598).trans (hF_M a i f598 f602 f624 f670 f671 f672 f673))) (fun i g112 => ((ju_i _ _ g112).trans (hG_M i g112))))
    · refine jr.aload_n rfl rfl ?_
      refine jr.getf (i := 113) (v := .ref 670) rfl rfl (by decide) rfl (by decide) rfl rfl rfl rfl ?_
      refine jr.iload_n rfl rfl ?_
      refine jr.aload_n rfl rfl ?_
      refine jr.getf (i := 129) (v := .ref 685) rfl rfl (by decide) rfl (by decide) rfl rfl rfl rfl ?_
      refine jr.iload_n rfl rfl ?_
      refine jr.bipush rfl (by decide) ?_
      refine jr.iadd rfl ?_
      refine jr.iload_n rfl rfl ?_
      refine jr.iadd rfl ?_
      obtain ⟨v3, e3⟩ : ∃ z, M 685 (((102 * f) + 80) + k) = z := ⟨_, rfl⟩
      have b3 : (-9223372036854775808) ≤ v3 ∧ v3 ≤ 9223372036854775807 := by rw [← e3]; exact (by have q := hI_M 685 (((102 * f) + 80) + k) (by decide); rw [xri_row rfl rfl] at q; exact q)
      refine jr.lald (i := (((102 * f) + 80) + k)) (x := v3) rfl (by decide) rfl (by decide) (by omega) (by omega) e3 ?_
      refine jr.last (i := k) (x := v3) rfl (by decide) rfl (by decide) (by omega) (by omega) ?_
      refine jr.iinc rfl rfl (by decide) rfl ?_
      refine jr.goto rfl rfl ?_
      refine jr.pick [0, 1, 2, 3] rfl rfl ?_
      exact ih (nM - 1) (by omega) (ju M 670 k v3) (k + 1) f (RI.u hI_M (a := 670) (i := k) (by rw [xri_row rfl rfl]; show (-9223372036854775808 : Int) ≤ _ ∧ _ ≤ (9223372036854775807 : Int); omega)) (RH.o hH_M (by decide) (by decide) (by decide)) (RF.o hS_M (by decide) (by decide))  (fun a i f598 f602 f624 f670 f671 f672 f673 => ((ju_c _ _ f670).trans (hF_M a i f598 f602 f624 f670 f671 f672 f673))) (fun i g112 => ((ju_c _ _ (by decide)).trans (hG_M i g112))) (by omega) (by omega) (AS.o hAS (by decide) (Or.inl (by decide))) (by omega) (by omega)
theorem r_giveBack_L84 {A : Nat → Option (Nat × (Nat → Int32))} {Q : Option Value → jm → Prop} {L : Int} {M0 : jm} (q : ∀ (M' : jm), RI M' → RH M' → RF M' → AS M' L → (∀ (a : Nat) (i : Int), a ≠ 598 → a ≠ 602 → a ≠ 624 → a ≠ 670 → a ≠ 671 → a ≠ 672 → a ≠ 673 → M' a i = M0 a i) → (∀ (i : Int), i ≠ 112 → M' 598 i = M0 598 i) → Q none M') : ∀ (nM : Nat) (M : jm) (k : Int) (f : Int), RI M → RH M → RF M → (∀ (a : Nat) (i : Int), a ≠ 598 → a ≠ 602 → a ≠ 624 → a ≠ 670 → a ≠ 671 → a ≠ 672 → a ≠ 673 → M a i = M0 a i) → (∀ (i : Int), i ≠ 112 → M 598 i = M0 598 i) → 0 ≤ k ∧ k ≤ 64 → 0 ≤ f ∧ f ≤ 8 → AS M L → L ≤ 2000000000 → 64 - k ≤ nM → jr A 3 xm_374 84 [(3, .int (Int32.ofInt (k))), (1, .int (Int32.ofInt (f))), (2, .int (Int32.ofInt (102 * f))), (0, .ref (598))] [] M Q := by
  intro nM
  induction nM using Nat.strongRecOn with
  | ind nM ih =>
    intro M k f hI_M hH_M hS_M hF_M hG_M h_k h_f hy0 hy1 hm
    have hAS := hy0
    have hl := hy0.1
    refine jr.iload_n rfl rfl ?_
    refine jr.bipush rfl (by decide) ?_
    refine jr.icmp_ge rfl rfl (by omega) (by omega) (fun h87 => ?_) (fun h87 => ?_)
    · refine jr.iconst rfl ?_
      refine jr.istore_n rfl (by decide) rfl ?_
      refine jr.pick [0, 1, 2, 3] rfl rfl ?_
      exact r_giveBack_L115 q 20 M 0 f hI_M hH_M hS_M  (fun a i f598 f602 f624 f670 f671 f672 f673 => (hF_M a i f598 f602 f624 f670 f671 f672 f673)) (fun i g112 => (hG_M i g112)) (by omega) (by omega) hAS (by omega) (by omega)
    · refine jr.aload_n rfl rfl ?_
      refine jr.getf (i := 116) (v := .ref 673) rfl rfl (by decide) rfl (by decide) rfl rfl rfl rfl ?_
      refine jr.iload_n rfl rfl ?_
      refine jr.aload_n rfl rfl ?_
      refine jr.getf (i := 129) (v := .ref 685) rfl rfl (by decide) rfl (by decide) rfl rfl rfl rfl ?_
      refine jr.iload_n rfl rfl ?_
      refine jr.bipush rfl (by decide) ?_
      refine jr.iadd rfl ?_
      refine jr.iload_n rfl rfl ?_
      refine jr.iadd rfl ?_
      obtain ⟨v1, e1⟩ : ∃ z, M 685 (((102 * f) + 16) + k) = z := ⟨_, rfl⟩
      have b1 : (-9223372036854775808) ≤ v1 ∧ v1 ≤ 9223372036854775807 := by rw [← e1]; exact (by have q := hI_M 685 (((102 * f) + 16) + k) (by decide); rw [xri_row rfl rfl] at q; exact q)
      refine jr.lald (i := (((102 * f) + 16) + k)) (x := v1) rfl (by decide) rfl (by decide) (by omega) (by omega) e1 ?_
      refine jr.last (i := k) (x := v1) rfl (by decide) rfl (by decide) (by omega) (by omega) ?_
      refine jr.iinc rfl rfl (by decide) rfl ?_
      refine jr.goto rfl rfl ?_
      refine jr.pick [0, 1, 2, 3] rfl rfl ?_
      exact ih (nM - 1) (by omega) (ju M 673 k v1) (k + 1) f (RI.u hI_M (a := 673) (i := k) (by rw [xri_row rfl rfl]; show (-9223372036854775808 : Int) ≤ _ ∧ _ ≤ (9223372036854775807 : Int); omega)) (RH.o hH_M (by decide) (by decide) (by decide)) (RF.o hS_M (by decide) (by decide))  (fun a i f598 f602 f624 f670 f671 f672 f673 => ((ju_c _ _ f673).trans (hF_M a i f598 f602 f624 f670 f671 f672 f673))) (fun i g112 => ((ju_c _ _ (by decide)).trans (hG_M i g112))) (by omega) (by omega) (AS.o hAS (by decide) (Or.inl (by decide))) (by omega) (by omega)
theorem r_giveBack_L35 {A : Nat → Option (Nat × (Nat → Int32))} {Q : Option Value → jm → Prop} {L : Int} {M0 : jm} (q : ∀ (M' : jm), RI M' → RH M' → RF M' → AS M' L → (∀ (a : Nat) (i : Int), a ≠ 598 → a ≠ 602 → a ≠ 624 → a ≠ 670 → a ≠ 671 → a ≠ 672 → a ≠ 673 → M' a i = M0 a i) → (∀ (i : Int), i ≠ 112 → M' 598 i = M0 598 i) → Q none M') : ∀ (nM : Nat) (M : jm) (k : Int) (f : Int), RI M → RH M → RF M → (∀ (a : Nat) (i : Int), a ≠ 598 → a ≠ 602 → a ≠ 624 → a ≠ 670 → a ≠ 671 → a ≠ 672 → a ≠ 673 → M a i = M0 a i) → (∀ (i : Int), i ≠ 112 → M 598 i = M0 598 i) → 0 ≤ k ∧ k ≤ 4 → 0 ≤ f ∧ f ≤ 8 → AS M L → L ≤ 2000000000 → 4 - k ≤ nM → jr A 3 xm_374 35 [(3, .int (Int32.ofInt (k))), (1, .int (Int32.ofInt (f))), (2, .int (Int32.ofInt (102 * f))), (0, .ref (598))] [] M Q := by
  intro nM
  induction nM using Nat.strongRecOn with
  | ind nM ih =>
    intro M k f hI_M hH_M hS_M hF_M hG_M h_k h_f hy0 hy1 hm
    have hAS := hy0
    have hl := hy0.1
    obtain ⟨va, hva⟩ : ∃ z, M 685 (((102 * f) + 8) + k) = z := ⟨_, rfl⟩
    obtain ⟨vb, hvb⟩ : ∃ z, M 685 (((102 * f) + 12) + k) = z := ⟨_, rfl⟩
    have ba := AS.at hy0 (f := f) (j := 8 + k) (i := ((102 * f) + 8) + k) (by omega) (by omega) (by omega)
    have bb := AS.at hy0 (f := f) (j := 12 + k) (i := ((102 * f) + 12) + k) (by omega) (by omega) (by omega)
    rw [hva] at ba
    rw [hvb] at bb
    refine jr.iload_n rfl rfl ?_
    refine jr.iconst rfl ?_
    refine jr.icmp_ge rfl rfl (by omega) (by omega) (fun h37 => ?_) (fun h37 => ?_)
    · refine jr.iconst rfl ?_
      refine jr.istore_n rfl (by decide) rfl ?_
      refine jr.pick [0, 1, 2, 3] rfl rfl ?_
      exact r_giveBack_L84 q 64 M 0 f hI_M hH_M hS_M  (fun a i f598 f602 f624 f670 f671 f672 f673 => (hF_M a i f598 f602 f624 f670 f671 f672 f673)) (fun i g112 => (hG_M i g112)) (by omega) (by omega) hAS (by omega) (by omega)
    · refine jr.aload_n rfl rfl ?_
      refine jr.getf (i := 36) (v := .ref 624) rfl rfl (by decide) rfl (by decide) rfl rfl rfl rfl ?_
      refine jr.iload_n rfl rfl ?_
      refine jr.aload_n rfl rfl ?_
      refine jr.getf (i := 129) (v := .ref 685) rfl rfl (by decide) rfl (by decide) rfl rfl rfl rfl ?_
      refine jr.iload_n rfl rfl ?_
      refine jr.bipush rfl (by decide) ?_
      refine jr.iadd rfl ?_
      refine jr.iload_n rfl rfl ?_
      refine jr.iadd rfl ?_
      refine jr.lald (i := (((102 * f) + 8) + k)) (x := va) rfl (by decide) rfl (by decide) (by omega) (by omega) hva ?_
      refine jr.l2i rfl ?_
      refine jr.iast (i := k) (x := va) rfl (by decide) rfl (by decide) (by omega) (by omega) ?_
      refine jr.aload_n rfl rfl ?_
      refine jr.getf (i := 115) (v := .ref 672) rfl rfl (by decide) rfl (by decide) rfl rfl rfl rfl ?_
      refine jr.iload_n rfl rfl ?_
      refine jr.aload_n rfl rfl ?_
      refine jr.getf (i := 129) (v := .ref 685) rfl rfl (by decide) rfl (by decide) rfl rfl rfl rfl ?_
      refine jr.iload_n rfl rfl ?_
      refine jr.bipush rfl (by decide) ?_
      refine jr.iadd rfl ?_
      refine jr.iload_n rfl rfl ?_
      refine jr.iadd rfl ?_
      refine jr.lald (i := (((102 * f) + 12) + k)) (x := vb) rfl (by decide) rfl (by decide) (by omega) (by omega) ((ju_c _ _ (by decide)).trans hvb) ?_
      refine jr.l2i rfl ?_
      refine jr.iast (i := k) (x := vb) rfl (by decide) rfl (by decide) (by omega) (by omega) ?_
      refine jr.iinc rfl rfl (by decide) rfl ?_
      refine jr.goto rfl rfl ?_
      refine jr.pick [0, 1, 2, 3] rfl rfl ?_
      exact ih (nM - 1) (by omega) (ju (ju M 624 k va) 672 k vb) (k + 1) f (RI.u (RI.u hI_M (a := 624) (i := k) (by rw [xri_row rfl rfl]; show (0 : Int) ≤ _ ∧ _ ≤ (1000 : Int); omega)) (a := 672) (i := k) (by rw [xri_row rfl rfl]; show (0 : Int) ≤ _ ∧ _ ≤ (16 : Int); omega)) (RH.o (RH.o hH_M (by decide) (by decide) (by decide)) (by decide) (by decide) (by decide)) (RF.o (RF.o hS_M (by decide) (by decide)) (by decide) (by decide))  (fun a i f598 f602 f624 f670 f671 f672 f673 => ((ju_c _ _ f672).trans ((ju_c _ _ f624).trans (hF_M a i f598 f602 f624 f670 f671 f672 f673)))) (fun i g112 => ((ju_c _ _ (by decide)).trans ((ju_c _ _ (by decide)).trans (hG_M i g112)))) (by omega) (by omega) (AS.o (AS.o hAS (by decide) (Or.inl (by decide))) (by decide) (Or.inl (by decide))) (by omega) (by omega)
theorem r_giveBack_L7 {A : Nat → Option (Nat × (Nat → Int32))} {Q : Option Value → jm → Prop} {L : Int} {M0 : jm} (q : ∀ (M' : jm), RI M' → RH M' → RF M' → AS M' L → (∀ (a : Nat) (i : Int), a ≠ 598 → a ≠ 602 → a ≠ 624 → a ≠ 670 → a ≠ 671 → a ≠ 672 → a ≠ 673 → M' a i = M0 a i) → (∀ (i : Int), i ≠ 112 → M' 598 i = M0 598 i) → Q none M') : ∀ (nM : Nat) (M : jm) (k : Int) (f : Int), RI M → RH M → RF M → (∀ (a : Nat) (i : Int), a ≠ 598 → a ≠ 602 → a ≠ 624 → a ≠ 670 → a ≠ 671 → a ≠ 672 → a ≠ 673 → M a i = M0 a i) → (∀ (i : Int), i ≠ 112 → M 598 i = M0 598 i) → 0 ≤ k ∧ k ≤ 8 → 0 ≤ f ∧ f ≤ 8 → AS M L → L ≤ 2000000000 → 8 - k ≤ nM → jr A 3 xm_374 7 [(3, .int (Int32.ofInt (k))), (1, .int (Int32.ofInt (f))), (2, .int (Int32.ofInt (102 * f))), (0, .ref (598))] [] M Q := by
  intro nM
  induction nM using Nat.strongRecOn with
  | ind nM ih =>
    intro M k f hI_M hH_M hS_M hF_M hG_M h_k h_f hy0 hy1 hm
    have hAS := hy0
    have hl := hy0.1
    refine jr.iload_n rfl rfl ?_
    refine jr.bipush rfl (by decide) ?_
    refine jr.icmp_ge rfl rfl (by omega) (by omega) (fun h10 => ?_) (fun h10 => ?_)
    · refine jr.iconst rfl ?_
      refine jr.istore_n rfl (by decide) rfl ?_
      refine jr.pick [0, 1, 2, 3] rfl rfl ?_
      exact r_giveBack_L35 q 4 M 0 f hI_M hH_M hS_M  (fun a i f598 f602 f624 f670 f671 f672 f673 => (hF_M a i f598 f602 f624 f670 f671 f672 f673)) (fun i g112 => (hG_M i g112)) (by omega) (by omega) hAS (by omega) (by omega)
    · refine jr.aload_n rfl rfl ?_
      refine jr.getf (i := 114) (v := .ref 671) rfl rfl (by decide) rfl (by decide) rfl rfl rfl rfl ?_
      refine jr.iload_n rfl rfl ?_
      refine jr.aload_n rfl rfl ?_
      refine jr.getf (i := 129) (v := .ref 685) rfl rfl (by decide) rfl (by decide) rfl rfl rfl rfl ?_
      refine jr.iload_n rfl rfl ?_
      refine jr.iload_n rfl rfl ?_
      refine jr.iadd rfl ?_
      obtain ⟨v1, e1⟩ : ∃ z, M 685 ((102 * f) + k) = z := ⟨_, rfl⟩
      have b1 : (-9223372036854775808) ≤ v1 ∧ v1 ≤ 9223372036854775807 := by rw [← e1]; exact (by have q := hI_M 685 ((102 * f) + k) (by decide); rw [xri_row rfl rfl] at q; exact q)
      refine jr.lald (i := ((102 * f) + k)) (x := v1) rfl (by decide) rfl (by decide) (by omega) (by omega) e1 ?_
      refine jr.last (i := k) (x := v1) rfl (by decide) rfl (by decide) (by omega) (by omega) ?_
      refine jr.iinc rfl rfl (by decide) rfl ?_
      refine jr.goto rfl rfl ?_
      refine jr.pick [0, 1, 2, 3] rfl rfl ?_
      exact ih (nM - 1) (by omega) (ju M 671 k v1) (k + 1) f (RI.u hI_M (a := 671) (i := k) (by rw [xri_row rfl rfl]; show (-9223372036854775808 : Int) ≤ _ ∧ _ ≤ (9223372036854775807 : Int); omega)) (RH.o hH_M (by decide) (by decide) (by decide)) (RF.o hS_M (by decide) (by decide))  (fun a i f598 f602 f624 f670 f671 f672 f673 => ((ju_c _ _ f671).trans (hF_M a i f598 f602 f624 f670 f671 f672 f673))) (fun i g112 => ((ju_c _ _ (by decide)).trans (hG_M i g112))) (by omega) (by omega) (AS.o hAS (by decide) (Or.inl (by decide))) (by omega) (by omega)
theorem r_giveBack {A : Nat → Option (Nat × (Nat → Int32))} {Q : Option Value → jm → Prop} {L : Int} {M : jm} (hI_M : RI M) (hH_M : RH M) (hS_M : RF M) {f : Int} (h_f : 0 ≤ f ∧ f ≤ 8) (p0 : AS M L) (p1 : L ≤ 2000000000) (q : ∀ (M' : jm), RI M' → RH M' → RF M' → AS M' L → (∀ (a : Nat) (i : Int), a ≠ 598 → a ≠ 602 → a ≠ 624 → a ≠ 670 → a ≠ 671 → a ≠ 672 → a ≠ 673 → M' a i = M a i) → (∀ (i : Int), i ≠ 112 → M' 598 i = M 598 i) → Q none M') : jc A 4 374 [.ref (598), .int (Int32.ofInt (f))] M Q := by
  have hAS := p0
  refine jc_of (m := xm_374) rfl (Nat.le_of_ble_eq_true rfl) rfl ?_
  refine jr.bipush rfl (by decide) ?_
  refine jr.iload_n rfl rfl ?_
  refine jr.imul rfl ?_
  refine jr.istore_n rfl (by decide) rfl ?_
  refine jr.iconst rfl ?_
  refine jr.istore_n rfl (by decide) rfl ?_
  refine jr.pick [0, 3, 1, 2] rfl rfl ?_
  exact r_giveBack_L7 q 8 M 0 f hI_M hH_M hS_M  (fun a i f598 f602 f624 f670 f671 f672 f673 => rfl) (fun i g112 => rfl) (by omega) (by omega) hAS (by omega) (by omega)
