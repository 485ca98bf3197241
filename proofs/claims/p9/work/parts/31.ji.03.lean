section
noncomputable def RG1x (M : jm) (g : Int) : Prop := ∀ j : Int, 0 ≤ j → j ≠ g → RGs M j
theorem RGs.fr {M M' : jm} {j : Int} (h : RGs M j) (e : ∀ (a : Nat) (i : Int), rG a = true → M' a i = M a i) : RGs M' j := by
  unfold RGs at h ⊢
  rw [e 606 _ rfl, e 613 _ rfl, e 617 _ rfl, e 621 _ rfl, e 619 _ rfl, e 620 _ rfl, e 607 _ rfl, e 618 _ rfl]
  exact h
theorem rG_sS {a : Nat} {i : Int} (h : rG a = true) : sS a i = true := by
  unfold rG at h
  simp only [Bool.or_eq_true] at h
  rcases h with ((((((h | h) | h) | h) | h) | h) | h) | h <;> (have e := Nat.eq_of_beq_eq_true h; subst e; rfl)
theorem ju_rG {M : jm} {a b : Nat} {i k v : Int} (ha : rG a = false) (hb : rG b = true) : ju M a i v b k = M b k := ju_c M v (fun e => by rw [e, ha] at hb; cases hb)
theorem RG1.o {M : jm} (h : RG1 M) {a : Nat} {i v : Int} (ha : rG a = false) : RG1 (ju M a i v) := fun j hj => (h j hj).fr (fun _ _ hb => ju_rG ha hb)
theorem RG1x.o {M : jm} {g : Int} (h : RG1x M g) {a : Nat} {i v : Int} (ha : rG a = false) : RG1x (ju M a i v) g := fun j hj hg => (h j hj hg).fr (fun _ _ hb => ju_rG ha hb)
theorem RG1.kp {M M' : jm} (h : RG1 M) (k : Kp M M') : RG1 M' := fun j hj => (h j hj).fr (fun a i hb => k a i (rG_sS hb))
theorem RG1x.kp {M M' : jm} {g : Int} (h : RG1x M g) (k : Kp M M') : RG1x M' g := fun j hj hg => (h j hj hg).fr (fun a i hb => k a i (rG_sS hb))
theorem RG1.fr {M M' : jm} (h : RG1 M) (e : ∀ (a : Nat) (i : Int), rG a = true → M' a i = M a i) : RG1 M' := fun j hj => (h j hj).fr e
theorem RG1.x {M : jm} (h : RG1 M) (g : Int) : RG1x M g := fun j hj _ => h j hj
theorem RG1.mk {M : jm} {g : Int} (h : RG1x M g) (hg : RGs M g) : RG1 M := fun j hj => by
  by_cases e : j = g
  · rw [e]
    exact hg
  · exact h j hj e
theorem RGs.sl {M : jm} {j g v : Int} {a : Nat} (h : RGs M j) (hj : j ≠ g) (ha : (618 : Nat) ≠ a) : RGs (ju M a g v) j := by
  unfold RGs at h ⊢
  rw [ju_i (b := 606) M v hj, ju_i (b := 613) M v hj, ju_i (b := 617) M v hj, ju_i (b := 621) M v hj, ju_i (b := 619) M v hj, ju_i (b := 620) M v hj, ju_i (b := 607) M v hj, ju_c M v ha]
  exact h
theorem RG1x.s {M : jm} {g v : Int} {a : Nat} (h : RG1x M g) (ha : (618 : Nat) ≠ a) : RG1x (ju M a g v) g := fun j hj hg => (h j hj hg).sl hg ha
theorem RGs.hb {M : jm} {j g i v : Int} (h : RGs M j) (hj : j ≠ g) (h0 : 400 * g ≤ i) (h1 : i < 400 * g + 400) : RGs (ju M 618 i v) j := by
  unfold RGs at h ⊢
  rw [ju_c M v (by decide : (606 : Nat) ≠ 618), ju_c M v (by decide : (613 : Nat) ≠ 618), ju_c M v (by decide : (617 : Nat) ≠ 618), ju_c M v (by decide : (621 : Nat) ≠ 618), ju_c M v (by decide : (619 : Nat) ≠ 618), ju_c M v (by decide : (620 : Nat) ≠ 618), ju_c M v (by decide : (607 : Nat) ≠ 618)]
  intro u
  obtain ⟨a1, a2⟩ := h u
  refine ⟨a1, fun w => ?_⟩
  obtain ⟨b1, b2, b3, b4, b5, b6⟩ := a2 w
  refine ⟨b1, b2, b3, b4, b5, fun k => ?_⟩
  rw [ju_i M v (by omega)]
  exact b6 k
theorem RG1x.b {M : jm} {g i v : Int} (h : RG1x M g) (h0 : 400 * g ≤ i) (h1 : i < 400 * g + 400) : RG1x (ju M 618 i v) g := fun j hj hg => (h j hj hg).hb hg h0 h1
theorem RG1.off {M : jm} (h : RG1 M) (g : Int) : RG1 (ju M 606 g 0) := RG1.mk (RG1x.s (h.x g) (by decide)) (fun u => absurd (ju_same M 606 g 0) u)
theorem RGs.new {M : jm} {g s : Int} (e : M 613 g = s) (h : 1 ≤ s) (e2 : M 617 g = -1) : RGs M g := fun _ => ⟨by rw [e]; exact h, fun w => absurd e2 w⟩
theorem RG1.s613 {M : jm} (h : RG1 M) {g v : Int} (hg : 0 ≤ g) (hv : 1 ≤ v) : RG1 (ju M 613 g v) := RG1.mk (RG1x.s (h.x g) (by decide)) (by
  have q := h g hg
  unfold RGs at q ⊢
  rw [ju_c M v (by decide : (606 : Nat) ≠ 613), ju_same, ju_c M v (by decide : (617 : Nat) ≠ 613), ju_c M v (by decide : (621 : Nat) ≠ 613), ju_c M v (by decide : (619 : Nat) ≠ 613), ju_c M v (by decide : (620 : Nat) ≠ 613), ju_c M v (by decide : (607 : Nat) ≠ 613), ju_c M v (by decide : (618 : Nat) ≠ 613)]
  exact fun u => ⟨hv, (q u).2⟩)
theorem RGs.mk' {M : jm} {g s hd nt pa ah k b : Int} (e1 : M 613 g = s) (e2 : M 617 g = hd) (e3 : M 621 g = nt) (e4 : M 619 g = pa) (e5 : M 620 g = ah) (e6 : M 607 g = k) (e7 : M 618 (400 * g + nt) = b) (h1 : 1 ≤ s) (h2 : 8 ≤ hd) (h3 : 0 ≤ nt) (h4 : nt ≤ 380) (h5 : pa ≤ 392) (h6 : ah ≤ 399) (h7 : k = 2 → nt < hd ∧ nt + 4 * (b % 16) ≤ 400) : RGs M g := by
  unfold RGs
  rw [e1, e2, e3, e4, e5, e6, e7]
  exact fun _ => ⟨h1, fun _ => ⟨h2, h3, h4, h5, h6, h7⟩⟩
noncomputable def BF (M : jm) (g p k : Int) : Prop := M 607 g = 2 → M 621 g < k → M 601 (400 * p + M 621 g) = M 618 (400 * g + M 621 g)
theorem BF.w {M : jm} {g p n i v : Int} (h : BF M g p n) (hi : M 607 g = 2 → i ≠ 400 * p + M 621 g) : BF (ju M 601 i v) g p n := by
  unfold BF at h ⊢
  rw [ju_c M v (by decide : (607 : Nat) ≠ 601), ju_c M v (by decide : (621 : Nat) ≠ 601), ju_c M v (by decide : (618 : Nat) ≠ 601)]
  intro a b
  rw [ju_i M v (fun e => hi a e.symm)]
  exact h a b
theorem BF.step {M : jm} {g p k v : Int} (h : BF M g p k) (e : M 618 (400 * g + k) = v) : BF (ju M 601 (400 * p + k) v) g p (k + 1) := by
  unfold BF at h ⊢
  rw [ju_c M v (by decide : (607 : Nat) ≠ 601), ju_c M v (by decide : (621 : Nat) ≠ 601), ju_c M v (by decide : (618 : Nat) ≠ 601)]
  intro a b
  by_cases q : M 621 g = k
  · rw [q, ju_same, e]
  · rw [ju_i M v (by omega)]
    exact h a (by omega)
end
section
/-! ===== the reference: contracts, a ===== -/
section RT
variable {A : Nat → Option (Nat × (Nat → Int32))} {M : jm} {Q : Option Value → jm → Prop}
theorem c_within {x a b : Int} (h_x : -9223372036854775808 ≤ x ∧ x ≤ 9223372036854775807) (h_a : -9223372036854775808 ≤ a ∧ a ≤ 9223372036854775807) (h_b : -9223372036854775808 ≤ b ∧ b ≤ 9223372036854775807) (k1 : a ≤ x → x ≤ b → Q (some (.int (Int32.ofInt 1))) M) (k0 : ¬ (a ≤ x ∧ x ≤ b) → Q (some (.int (Int32.ofInt 0))) M) : jc A 1 242 [.long (Int64.ofInt (x)), .long (Int64.ofInt (a)), .long (Int64.ofInt (b))] M Q := by
  refine jc_of (m := xm_242) rfl (Nat.le_of_ble_eq_true rfl) rfl ?_
  refine jr.lload_n rfl rfl ?_
  refine jr.lload_n rfl rfl ?_
  refine jr.lcmp_lt rfl rfl rfl (by omega) (by omega) (fun h2 => ?_) (fun h2 => ?_)
  · refine jr.iconst rfl ?_
    exact jr.ireturn rfl rfl rfl (k0 (by omega))
  · refine jr.lload_n rfl rfl ?_
    refine jr.lload rfl rfl ?_
    refine jr.lcmp_gt rfl rfl rfl (by omega) (by omega) (fun h9 => ?_) (fun h9 => ?_)
    · refine jr.iconst rfl ?_
      exact jr.ireturn rfl rfl rfl (k0 (by omega))
    · refine jr.iconst rfl ?_
      refine jr.goto rfl rfl ?_
      exact jr.ireturn rfl rfl rfl (k1 (by omega) (by omega))
theorem c_isPN {x : Int} (h_x : -2147483648 ≤ x ∧ x ≤ 2147483647) (k1 : 0 ≤ x → x ≤ 23 → Q (some (.int (Int32.ofInt 1))) M) (k0 : ¬ (0 ≤ x ∧ x ≤ 23) → Q (some (.int (Int32.ofInt 0))) M) : jc A 2 246 [.int (Int32.ofInt (x))] M Q := by
  refine jc_of (m := xm_246) rfl (Nat.le_of_ble_eq_true rfl) rfl ?_
  refine jr.iload_n rfl rfl ?_
  refine jr.i2l rfl (by omega) ?_
  refine jr.lconst (x := 0) rfl (by decide) ?_
  refine jr.ldc2 (x := 23) rfl rfl (by decide) ?_
  refine jr_s rfl rfl (Or.inl rfl) ⟨Nat.le_of_ble_eq_true rfl, Nat.le_of_ble_eq_true rfl⟩ rfl rfl (jc.deep (c_within (by omega) (by omega) (by omega) (fun l6 u6 => ?_) (fun n6 => ?_)) (by decide))
  · exact jr.ireturn rfl rfl rfl (k1 (by omega) (by omega))
  · exact jr.ireturn rfl rfl rfl (k0 (by omega))
theorem c_isThere (hI_M : RI M) {x : Int} (h_x : -2147483648 ≤ x ∧ x ≤ 2147483647) (k1 : 0 ≤ x → x ≤ 23 → M 600 x ≠ -1 → Q (some (.int (Int32.ofInt 1))) M) (k0 : ¬ (0 ≤ x ∧ x ≤ 23 ∧ M 600 x ≠ -1) → Q (some (.int (Int32.ofInt 0))) M) : jc A 3 247 [.ref (598), .int (Int32.ofInt (x))] M Q := by
  refine jc_of (m := xm_247) rfl (Nat.le_of_ble_eq_true rfl) rfl ?_
  refine jr.iload_n rfl rfl ?_
  refine jr_s rfl rfl (Or.inl rfl) ⟨Nat.le_of_ble_eq_true rfl, Nat.le_of_ble_eq_true rfl⟩ rfl rfl (jc.deep (c_isPN (by omega) (fun l1 u1 => ?_) (fun n1 => ?_)) (by decide))
  · refine jr.if_eq rfl rfl (by omega) (fun h => absurd h (by decide)) (fun _ => ?_)
    refine jr.aload_n rfl rfl ?_
    refine jr.getf (i := 3) (v := .ref 600) rfl rfl (by decide) rfl (by decide) rfl rfl rfl rfl ?_
    refine jr.iload_n rfl rfl ?_
    obtain ⟨v1, e1⟩ : ∃ z, M 600 x = z := ⟨_, rfl⟩
    have b1 : (-1) ≤ v1 ∧ v1 ≤ 400 := by rw [← e1]; exact (by have q := hI_M 600 x (by decide); rw [xri_row rfl rfl] at q; exact q)
    refine jr.iald (i := x) (x := v1) rfl (by decide) rfl (by decide) (by omega) (by omega) e1 ?_
    refine jr.iconst rfl ?_
    refine jr.icmp_eq rfl rfl (by omega) (by omega) (fun h14 => ?_) (fun h14 => ?_)
    · refine jr.iconst rfl ?_
      exact jr.ireturn rfl rfl rfl (k0 (by omega))
    · refine jr.iconst rfl ?_
      refine jr.goto rfl rfl ?_
      exact jr.ireturn rfl rfl rfl (k1 (by omega) (by omega) (by omega))
  · refine jr.if_eq rfl rfl (by omega) (fun _ => ?_) (fun h => absurd (by decide) h)
    refine jr.iconst rfl ?_
    exact jr.ireturn rfl rfl rfl (k0 (by omega))
end RT
theorem r_one {A : Nat → Option (Nat × (Nat → Int32))} {Q : Option Value → jm → Prop} {T : jm} {M : jm} (hI_M : RI M) (hH_M : RH M) (hS_M : RF M) (ht_M : Kp T M) {x : Int} (h_x : 0 ≤ x ∧ x ≤ 23) {i : Int} (h_i : 0 ≤ i ∧ i ≤ 399) (q : ∀ (r : Int), 0 ≤ r ∧ r ≤ 255 → r = M 601 (400 * x + i) → Q (some (.int (Int32.ofInt r))) M) : jc A 1 253 [.ref (598), .int (Int32.ofInt (x)), .int (Int32.ofInt (i))] M Q := by
  refine jc_of (m := xm_253) rfl (Nat.le_of_ble_eq_true rfl) rfl ?_
  refine jr.aload_n rfl rfl ?_
  refine jr.getf (i := 4) (v := .ref 601) rfl rfl (by decide) rfl (by decide) rfl rfl rfl rfl ?_
  refine jr.sipush rfl (by decide) ?_
  refine jr.iload_n rfl rfl ?_
  refine jr.imul rfl ?_
  refine jr.iload_n rfl rfl ?_
  refine jr.iadd rfl ?_
  obtain ⟨v1, e1⟩ : ∃ z, M 601 ((400 * x) + i) = z := ⟨_, rfl⟩
  have b1 : 0 ≤ v1 ∧ v1 ≤ 255 := by rw [← e1]; exact (by have q := hI_M 601 ((400 * x) + i) (by decide); rw [xri_row rfl rfl] at q; exact q)
  refine jr.iald (i := ((400 * x) + i)) (x := v1) rfl (by decide) rfl (by decide) (by omega) (by omega) e1 ?_
  exact jr.ireturn rfl rfl rfl (q _ (by omega) (by omega))
theorem r_two {A : Nat → Option (Nat × (Nat → Int32))} {Q : Option Value → jm → Prop} {T : jm} {M : jm} (hI_M : RI M) (hH_M : RH M) (hS_M : RF M) (ht_M : Kp T M) {x : Int} (h_x : 0 ≤ x ∧ x ≤ 23) {i : Int} (h_i : 0 ≤ i ∧ i ≤ 398) (q : ∀ (r : Int), 0 ≤ r ∧ r ≤ 65535 → Q (some (.int (Int32.ofInt r))) M) : jc A 2 254 [.ref (598), .int (Int32.ofInt (x)), .int (Int32.ofInt (i))] M Q := by
  refine jc_of (m := xm_254) rfl (Nat.le_of_ble_eq_true rfl) rfl ?_
  refine jr.aload_n rfl rfl ?_
  refine jr.iload_n rfl rfl ?_
  refine jr.iload_n rfl rfl ?_
  refine jr_v rfl rfl (Or.inl rfl) rfl rfl (by decide) rfl ⟨rfl, Nat.le_of_ble_eq_true rfl, Nat.le_of_ble_eq_true rfl⟩ rfl (jc.deep (r_one hI_M hH_M hS_M ht_M (by omega) (by omega)  (fun r1 z1 w1_0 => ?_)) (by decide))
  refine jr.bipush rfl (by decide) ?_
  refine jr.ishl rfl ?_
  have b2 : j_shl r1 8 = r1 * 256 := j_shl_ex 8 (by decide) (by omega) (by omega)
  generalize j_shl r1 8 = v2 at b2 ⊢
  refine jr.aload_n rfl rfl ?_
  refine jr.iload_n rfl rfl ?_
  refine jr.iload_n rfl rfl ?_
  refine jr.iconst rfl ?_
  refine jr.iadd rfl ?_
  refine jr_v rfl rfl (Or.inl rfl) rfl rfl (by decide) rfl ⟨rfl, Nat.le_of_ble_eq_true rfl, Nat.le_of_ble_eq_true rfl⟩ rfl (jc.deep (r_one hI_M hH_M hS_M ht_M (by omega) (by omega)  (fun r3 z3 w3_0 => ?_)) (by decide))
  refine jr.ior rfl ?_
  have b4 : 0 ≤ j_or v2 r3 ∧ j_or v2 r3 < 65536 := j_or_lt 16 (by decide) (by omega) (by omega)
  generalize j_or v2 r3 = v4 at b4 ⊢
  exact jr.ireturn rfl rfl rfl (q _ (by omega) )
theorem r_four {A : Nat → Option (Nat × (Nat → Int32))} {Q : Option Value → jm → Prop} {T : jm} {M : jm} (hI_M : RI M) (hH_M : RH M) (hS_M : RF M) (ht_M : Kp T M) {x : Int} (h_x : 0 ≤ x ∧ x ≤ 23) {i : Int} (h_i : 0 ≤ i ∧ i ≤ 396) (q : ∀ (r : Int), (-9223372036854775808) ≤ r ∧ r ≤ 9223372036854775807 → Q (some (.long (Int64.ofInt r))) M) : jc A 3 255 [.ref (598), .int (Int32.ofInt (x)), .int (Int32.ofInt (i))] M Q := by
  refine jc_of (m := xm_255) rfl (Nat.le_of_ble_eq_true rfl) rfl ?_
  refine jr.aload_n rfl rfl ?_
  refine jr.iload_n rfl rfl ?_
  refine jr.iload_n rfl rfl ?_
  refine jr_v rfl rfl (Or.inl rfl) rfl rfl (by decide) rfl ⟨rfl, Nat.le_of_ble_eq_true rfl, Nat.le_of_ble_eq_true rfl⟩ rfl (jc.deep (r_two hI_M hH_M hS_M ht_M (by omega) (by omega)  (fun r1 z1  => ?_)) (by decide))
  refine jr.i2l rfl (by omega) ?_
  refine jr.bipush rfl (by decide) ?_
  refine jr.lshl rfl ?_
  have b2 : -9223372036854775808 ≤ jl_shl r1 16 ∧ jl_shl r1 16 ≤ 9223372036854775807 := jbl_any _
  generalize jl_shl r1 16 = v2 at b2 ⊢
  refine jr.aload_n rfl rfl ?_
  refine jr.iload_n rfl rfl ?_
  refine jr.iload_n rfl rfl ?_
  refine jr.iconst rfl ?_
  refine jr.iadd rfl ?_
  refine jr_v rfl rfl (Or.inl rfl) rfl rfl (by decide) rfl ⟨rfl, Nat.le_of_ble_eq_true rfl, Nat.le_of_ble_eq_true rfl⟩ rfl (jc.deep (r_two hI_M hH_M hS_M ht_M (by omega) (by omega)  (fun r3 z3  => ?_)) (by decide))
  refine jr.i2l rfl (by omega) ?_
  refine jr.lor rfl ?_
  have b4 : -9223372036854775808 ≤ jl_or v2 r3 ∧ jl_or v2 r3 ≤ 9223372036854775807 := jbl_any _
  generalize jl_or v2 r3 = v4 at b4 ⊢
  exact jr.lreturn rfl rfl (q _ (by omega) )
theorem r_eight {A : Nat → Option (Nat × (Nat → Int32))} {Q : Option Value → jm → Prop} {T : jm} {M : jm} (hI_M : RI M) (hH_M : RH M) (hS_M : RF M) (ht_M : Kp T M) {x : Int} (h_x : 0 ≤ x ∧ x ≤ 23) {i : Int} (h_i : 0 ≤ i ∧ i ≤ 392) (q : ∀ (r : Int), (-9223372036854775808) ≤ r ∧ r ≤ 9223372036854775807 → Q (some (.long (Int64.ofInt r))) M) : jc A 4 256 [.ref (598), .int (Int32.ofInt (x)), .int (Int32.ofInt (i))] M Q := by
  refine jc_of (m := xm_256) rfl (Nat.le_of_ble_eq_true rfl) rfl ?_
  refine jr.aload_n rfl rfl ?_
  refine jr.iload_n rfl rfl ?_
  refine jr.iload_n rfl rfl ?_
  refine jr_v rfl rfl (Or.inl rfl) rfl rfl (by decide) rfl ⟨rfl, Nat.le_of_ble_eq_true rfl, Nat.le_of_ble_eq_true rfl⟩ rfl (jc.deep (r_four hI_M hH_M hS_M ht_M (by omega) (by omega)  (fun r1 z1  => ?_)) (by decide))
  refine jr.bipush rfl (by decide) ?_
  refine jr.lshl rfl ?_
  have b2 : -9223372036854775808 ≤ jl_shl r1 32 ∧ jl_shl r1 32 ≤ 9223372036854775807 := jbl_any _
  generalize jl_shl r1 32 = v2 at b2 ⊢
  refine jr.aload_n rfl rfl ?_
  refine jr.iload_n rfl rfl ?_
  refine jr.iload_n rfl rfl ?_
  refine jr.iconst rfl ?_
  refine jr.iadd rfl ?_
  refine jr_v rfl rfl (Or.inl rfl) rfl rfl (by decide) rfl ⟨rfl, Nat.le_of_ble_eq_true rfl, Nat.le_of_ble_eq_true rfl⟩ rfl (jc.deep (r_four hI_M hH_M hS_M ht_M (by omega) (by omega)  (fun r3 z3  => ?_)) (by decide))
  refine jr.lor rfl ?_
  have b4 : -9223372036854775808 ≤ jl_or v2 r3 ∧ jl_or v2 r3 ≤ 9223372036854775807 := jbl_any _
  generalize jl_or v2 r3 = v4 at b4 ⊢
  exact jr.lreturn rfl rfl (q _ (by omega) )
end

