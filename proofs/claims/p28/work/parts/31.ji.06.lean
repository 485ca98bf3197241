section
theorem RF.w {M : jm} (h : RF M) {g s : Int} (hs : M 629 g = 6 → 1 ≤ s ∧ s ≤ 10) : RF (ju M 638 g s) := RFx.w (fun f _ => h f) hs
end
section
/-! ===== what the methods of packets and flows leave as it is; heads of kind FOUR; masks ===== -/
noncomputable def sS (a : Nat) (i : Int) : Bool := Nat.blt a 598 || (bif Nat.beq a 598 then (Nat.beq i.toNat 2 || Nat.ble 72 i.toNat) else ((Nat.ble 606 a && Nat.ble a 614) || (Nat.ble 617 a && Nat.ble a 621) || Nat.ble 647 a))
noncomputable def Kp (T M : jm) : Prop := ∀ (a : Nat) (i : Int), sS a i = true → M a i = T a i
theorem Kp.rfl (M : jm) : Kp M M := fun _ _ _ => Eq.refl _
theorem Kp.o {T M : jm} (h : Kp T M) {a : Nat} {i v : Int} (hs : sS a i = false) : Kp T (ju M a i v) := by
  intro b k hb
  by_cases hq : b = a ∧ k = i
  · obtain ⟨h1, h2⟩ := hq
    subst h1
    subst h2
    rw [hs] at hb
    cases hb
  · rw [ju_ne M v hq]
    exact h b k hb
noncomputable def LK (x : Int) (M : jm) : Prop := ∀ h : Int, 0 ≤ h → h < M 598 6 → M 604 h + M 605 h ≤ M 600 x ∧ lst (M 603 h) ≤ M 605 h ∧ (M 603 h = 2 → M 605 h = 4 * (M 601 (400 * x + M 604 h) % 16))
theorem LK.zero {x : Int} {M : jm} (e : M 598 6 = 0) : LK x M := by
  intro h h0 h1
  rw [e] at h1
  omega
theorem LK.fr {x : Int} {M M' : jm} (h : LK x M) (e6 : M' 598 6 = M 598 6) (e0 : ∀ i, M' 600 i = M 600 i) (e1 : ∀ i, M' 601 i = M 601 i) (e3 : ∀ i, M' 603 i = M 603 i) (e4 : ∀ i, M' 604 i = M 604 i) (e5 : ∀ i, M' 605 i = M 605 i) : LK x M' := by
  intro k k0 k1
  rw [e5, e1, e4, e3, e0]
  rw [e6] at k1
  exact h k k0 k1
theorem LK.add {x : Int} {M : jm} (h : LK x M) {H k a s : Int} (e : M 598 6 = H) (hs : a + s ≤ M 600 x) (hl : lst k ≤ s) (hk : k = 2 → s = 4 * (M 601 (400 * x + a) % 16)) : LK x (ju (ju (ju (ju M 603 H k) 604 H a) 605 H s) 598 6 (H + 1)) := by
  intro j j0 j1
  rw [ju_same] at j1
  rw [ju_c _ _ (by decide : (603 : Nat) ≠ 598), ju_c _ _ (by decide : (603 : Nat) ≠ 605), ju_c _ _ (by decide : (603 : Nat) ≠ 604), ju_c _ _ (by decide : (605 : Nat) ≠ 598), ju_c _ _ (by decide : (601 : Nat) ≠ 598), ju_c _ _ (by decide : (601 : Nat) ≠ 605), ju_c _ _ (by decide : (601 : Nat) ≠ 604), ju_c _ _ (by decide : (601 : Nat) ≠ 603), ju_c _ _ (by decide : (600 : Nat) ≠ 598), ju_c _ _ (by decide : (600 : Nat) ≠ 605), ju_c _ _ (by decide : (600 : Nat) ≠ 604), ju_c _ _ (by decide : (600 : Nat) ≠ 603), ju_c _ _ (by decide : (604 : Nat) ≠ 598), ju_c _ _ (by decide : (604 : Nat) ≠ 605)]
  by_cases hj : j = H
  · subst hj
    rw [ju_same, ju_same, ju_same]
    exact ⟨hs, hl, hk⟩
  · repeat rw [ju_i _ _ hj]
    exact h j j0 (by omega)
theorem j_and_mask {x : Int} (k : Nat) (hk : k < 31) (h0 : 0 ≤ x) (h1 : x ≤ 2147483647) : j_and x ((2 ^ k - 1 : Nat) : Int) = x % (2 ^ k : Nat) := by
  have hp : 0 < 2 ^ k := Nat.two_pow_pos k
  have hp2 : 2 ^ k ≤ 2 ^ 30 := Nat.pow_le_pow_right (by decide) (by omega)
  have hp3 : 2 ^ 30 = 1073741824 := Eq.refl _
  obtain ⟨n, rfl⟩ := Int.eq_ofNat_of_zero_le h0
  unfold j_and
  have hN : (Int32.ofInt (n : Int) &&& Int32.ofInt ((2 ^ k - 1 : Nat) : Int)).toBitVec.toNat = n % 2 ^ k := by
    rw [Int32.toBitVec_and, BitVec.toNat_and, jb_tn, jb_tn]
    rw [show ((n : Int) % 4294967296).toNat = n by omega, show (((2 ^ k - 1 : Nat) : Int) % 4294967296).toNat = 2 ^ k - 1 by omega]
    exact Nat.and_two_pow_sub_one_eq_mod n k
  have hl : n % 2 ^ k < 2 ^ k := Nat.mod_lt _ hp
  have e2 : ((n : Int) % (2 ^ k : Nat)) = ((n % 2 ^ k : Nat) : Int) := by simp
  rw [e2, jb_ti, hN]
  split <;> omega
noncomputable def rG (a : Nat) : Bool := Nat.beq a 606 || Nat.beq a 607 || Nat.beq a 613 || Nat.beq a 617 || Nat.beq a 618 || Nat.beq a 619 || Nat.beq a 620 || Nat.beq a 621
noncomputable def RGs (M : jm) (g : Int) : Prop := M 606 g ≠ 0 → 1 ≤ M 613 g ∧ (M 617 g ≠ -1 → 8 ≤ M 617 g ∧ 0 ≤ M 621 g ∧ M 621 g ≤ 380 ∧ M 619 g ≤ 392 ∧ M 620 g ≤ 399 ∧ (M 607 g = 2 → M 621 g < M 617 g ∧ M 621 g + 4 * (M 618 (400 * g + M 621 g) % 16) ≤ 400))
noncomputable def RG1 (M : jm) : Prop := ∀ j : Int, 0 ≤ j → RGs M j
noncomputable def RG1x (M : jm) (g : Int) : Prop := ∀ j : Int, 0 ≤ j → j ≠ g → RGs M j
theorem RGs.fr {M M' : jm} {j : Int} (h : RGs M j) (e : ∀ (a : Nat) (i : Int), rG a = true → M' a i = M a i) : RGs M' j := by
  unfold RGs at h ⊢
  rw [e 606 _ rfl, e 613 _ rfl, e 617 _ rfl, e 621 _ rfl, e 619 _ rfl, e 620 _ rfl, e 607 _ rfl, e 618 _ rfl]
  exact h
theorem rG_sS {a : Nat} {i : Int} (h : rG a = true) : sS a i = true := by
  unfold rG at h
  simp only [Bool.or_eq_true] at h
  rcases h with ((((((h | h) | h) | h) | h) | h) | h) | h <;> (have e := Nat.eq_of_beq_eq_true h; subst e; rfl)
theorem ju_rG {M : jm} {a b : Nat} {i k v : Int} (ha : rG a = false) (hb : rG b = true) : ju M a i v b k = M b k := ju_c M v (fun e => by rw [e, ha] at hb; cases hb)
theorem RG1.o {M : jm} (h : RG1 M) {a : Nat} {i v : Int} (ha : rG a = false) : RG1 (ju M a i v) := fun j hj => (h j hj).fr (fun _ _ hb => ju_rG ha hb)
theorem RG1x.o {M : jm} {g : Int} (h : RG1x M g) {a : Nat} {i v : Int} (ha : rG a = false) : RG1x (ju M a i v) g := fun j hj hg => (h j hj hg).fr (fun _ _ hb => ju_rG ha hb)
theorem RG1.kp {M M' : jm} (h : RG1 M) (k : Kp M M') : RG1 M' := fun j hj => (h j hj).fr (fun a i hb => k a i (rG_sS hb))
theorem RG1x.kp {M M' : jm} {g : Int} (h : RG1x M g) (k : Kp M M') : RG1x M' g := fun j hj hg => (h j hj hg).fr (fun a i hb => k a i (rG_sS hb))
theorem RG1.fr {M M' : jm} (h : RG1 M) (e : ∀ (a : Nat) (i : Int), rG a = true → M' a i = M a i) : RG1 M' := fun j hj => (h j hj).fr e
theorem RG1.x {M : jm} (h : RG1 M) (g : Int) : RG1x M g := fun j hj _ => h j hj
theorem RG1.mk {M : jm} {g : Int} (h : RG1x M g) (hg : RGs M g) : RG1 M := fun j hj => by
  by_cases e : j = g
  · rw [e]
    exact hg
  · exact h j hj e
theorem RGs.sl {M : jm} {j g v : Int} {a : Nat} (h : RGs M j) (hj : j ≠ g) (ha : (618 : Nat) ≠ a) : RGs (ju M a g v) j := by
  unfold RGs at h ⊢
  rw [ju_i (b := 606) M v hj, ju_i (b := 613) M v hj, ju_i (b := 617) M v hj, ju_i (b := 621) M v hj, ju_i (b := 619) M v hj, ju_i (b := 620) M v hj, ju_i (b := 607) M v hj, ju_c M v ha]
  exact h
theorem RG1x.s {M : jm} {g v : Int} {a : Nat} (h : RG1x M g) (ha : (618 : Nat) ≠ a) : RG1x (ju M a g v) g := fun j hj hg => (h j hj hg).sl hg ha
theorem RGs.hb {M : jm} {j g i v : Int} (h : RGs M j) (hj : j ≠ g) (h0 : 400 * g ≤ i) (h1 : i < 400 * g + 400) : RGs (ju M 618 i v) j := by
  unfold RGs at h ⊢
  rw [ju_c M v (by decide : (606 : Nat) ≠ 618), ju_c M v (by decide : (613 : Nat) ≠ 618), ju_c M v (by decide : (617 : Nat) ≠ 618), ju_c M v (by decide : (621 : Nat) ≠ 618), ju_c M v (by decide : (619 : Nat) ≠ 618), ju_c M v (by decide : (620 : Nat) ≠ 618), ju_c M v (by decide : (607 : Nat) ≠ 618)]
  intro u
  obtain ⟨a1, a2⟩ := h u
  refine ⟨a1, fun w => ?_⟩
  obtain ⟨b1, b2, b3, b4, b5, b6⟩ := a2 w
  refine ⟨b1, b2, b3, b4, b5, fun k => ?_⟩
  rw [ju_i M v (by omega)]
  exact b6 k
theorem RG1x.b {M : jm} {g i v : Int} (h : RG1x M g) (h0 : 400 * g ≤ i) (h1 : i < 400 * g + 400) : RG1x (ju M 618 i v) g := fun j hj hg => (h j hj hg).hb hg h0 h1
theorem RG1.off {M : jm} (h : RG1 M) (g : Int) : RG1 (ju M 606 g 0) := RG1.mk (RG1x.s (h.x g) (by decide)) (fun u => absurd (ju_same M 606 g 0) u)
theorem RGs.new {M : jm} {g s : Int} (e : M 613 g = s) (h : 1 ≤ s) (e2 : M 617 g = -1) : RGs M g := fun _ => ⟨by rw [e]; exact h, fun w => absurd e2 w⟩
theorem RG1.s613 {M : jm} (h : RG1 M) {g v : Int} (hg : 0 ≤ g) (hv : 1 ≤ v) : RG1 (ju M 613 g v) := RG1.mk (RG1x.s (h.x g) (by decide)) (by
  have q := h g hg
  unfold RGs at q ⊢
  rw [ju_c M v (by decide : (606 : Nat) ≠ 613), ju_same, ju_c M v (by decide : (617 : Nat) ≠ 613), ju_c M v (by decide : (621 : Nat) ≠ 613), ju_c M v (by decide : (619 : Nat) ≠ 613), ju_c M v (by decide : (620 : Nat) ≠ 613), ju_c M v (by decide : (607 : Nat) ≠ 613), ju_c M v (by decide : (618 : Nat) ≠ 613)]
  exact fun u => ⟨hv, (q u).2⟩)
theorem RGs.mk' {M : jm} {g s hd nt pa ah k b : Int} (e1 : M 613 g = s) (e2 : M 617 g = hd) (e3 : M 621 g = nt) (e4 : M 619 g = pa) (e5 : M 620 g = ah) (e6 : M 607 g = k) (e7 : M 618 (400 * g + nt) = b) (h1 : 1 ≤ s) (h2 : 8 ≤ hd) (h3 : 0 ≤ nt) (h4 : nt ≤ 380) (h5 : pa ≤ 392) (h6 : ah ≤ 399) (h7 : k = 2 → nt < hd ∧ nt + 4 * (b % 16) ≤ 400) : RGs M g := by
  unfold RGs
  rw [e1, e2, e3, e4, e5, e6, e7]
  exact fun _ => ⟨h1, fun _ => ⟨h2, h3, h4, h5, h6, h7⟩⟩
noncomputable def BF (M : jm) (g p k : Int) : Prop := M 607 g = 2 → M 621 g < k → M 601 (400 * p + M 621 g) = M 618 (400 * g + M 621 g)
theorem BF.w {M : jm} {g p n i v : Int} (h : BF M g p n) (hi : M 607 g = 2 → i ≠ 400 * p + M 621 g) : BF (ju M 601 i v) g p n := by
  unfold BF at h ⊢
  rw [ju_c M v (by decide : (607 : Nat) ≠ 601), ju_c M v (by decide : (621 : Nat) ≠ 601), ju_c M v (by decide : (618 : Nat) ≠ 601)]
  intro a b
  rw [ju_i M v (fun e => hi a e.symm)]
  exact h a b
theorem BF.step {M : jm} {g p k v : Int} (h : BF M g p k) (e : M 618 (400 * g + k) = v) : BF (ju M 601 (400 * p + k) v) g p (k + 1) := by
  unfold BF at h ⊢
  rw [ju_c M v (by decide : (607 : Nat) ≠ 601), ju_c M v (by decide : (621 : Nat) ≠ 601), ju_c M v (by decide : (618 : Nat) ≠ 601)]
  intro a b
  by_cases q : M 621 g = k
  · rw [q, ju_same, e]
  · rw [ju_i M v (by omega)]
    exact h a (by omega)
end
section
/-! ===== the reference: contracts, a ===== -/
section RT
variable {A : Nat → Option (Nat × (Nat → Int32))} {M : jm} {Q : Option Value → jm → Prop}
theorem c_within {x a b : Int} (h_x : -9223372036854775808 ≤ x ∧ x ≤ 9223372036854775807) (h_a : -9223372036854775808 ≤ a ∧ a ≤ 9223372036854775807) (h_b : -9223372036854775808 ≤ b ∧ b ≤ 9223372036854775807) (k1 : a ≤ x → x ≤ b → Q (some (.int (Int32.ofInt 1))) M) (k0 : ¬ (a ≤ x ∧ x ≤ b) → Q (some (.int (Int32.ofInt 0))) M) : jc A 1 242 [.long (Int64.ofInt (x)), .long (Int64.ofInt (a)), .long (Int64.ofInt (b))] M Q := by
  refine jc_of (m := xm_242) rfl (Nat.le_of_ble_eq_true rfl) rfl ?_
  refine jr.lload_n rfl rfl ?_
  refine jr.lload_n rfl rfl ?_
  refine jr.lcmp_lt rfl rfl rfl (by omega) (by omega) (fun h2 => ?_) (fun h2 => ?_)
  · refine jr.iconst rfl ?_
    exact jr.ireturn rfl rfl rfl (k0 (by omega))
  · refine jr.lload_n rfl rfl ?_
    refine jr.lload rfl rfl ?_
    refine jr.lcmp_gt rfl rfl rfl (by omega) (by omega) (fun h9 => ?_) (fun h9 => ?_)
    · refine jr.iconst rfl ?_
      exact jr.ireturn rfl rfl rfl (k0 (by omega))
    · refine jr.iconst rfl ?_
      refine jr.goto rfl rfl ?_
      exact jr.ireturn rfl rfl rfl (k1 (by omega) (by omega))
theorem c_isPN {x : Int} (h_x : -2147483648 ≤ x ∧ x ≤ 2147483647) (k1 : 0 ≤ x → x ≤ 23 → Q (some (.int (Int32.ofInt 1))) M) (k0 : ¬ (0 ≤ x ∧ x ≤ 23) → Q (some (.int (Int32.ofInt 0))) M) : jc A 2 246 [.int (Int32.ofInt (x))] M Q := by
  refine jc_of (m := xm_246) rfl (Nat.le_of_ble_eq_true rfl) rfl ?_
  refine jr.iload_n rfl rfl ?_
  refine jr.i2l rfl (by omega) ?_
  refine jr.lconst (x := 0) rfl (by decide) ?_
  refine jr.ldc2 (x := 23) rfl rfl (by decide) ?_
  refine jr_s rfl rfl (Or.inl rfl) ⟨Nat.le_of_ble_eq_true rfl, Nat.le_of_ble_eq_true rfl⟩ rfl rfl (jc.deep (c_within (by omega) (by omega) (by omega) (fun l6 u6 => ?_) (fun n6 => ?_)) (by decide))
  · exact jr.ireturn rfl rfl rfl (k1 (by omega) (by omega))
  · exact jr.ireturn rfl rfl rfl (k0 (by omega))
end RT
end
