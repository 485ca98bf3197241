section
/-! ===== the reference: carried, sums, repair ===== -/
theorem hsN_k {f : Int → Int} {n k a z : Int} (h : 4 ≤ hsN f n k a z ∧ hsN f n k a z ≤ 9) : 2 ≤ k ∧ k ≤ 6 := by
  unfold hsN byK byN byQ at h
  (repeat' split at h) <;> omega
theorem hX_n (f : Int → Int) (N : Int) : ∀ n : Nat, 4 ≤ hX f N (n : Int) ∧ hX f N (n : Int) ≤ 9 → nxD f N n ≠ -1 := by
  intro n
  induction n with
  | zero => intro h; have : hX f N ((0 : Nat) : Int) = 0 := rfl; omega
  | succ n ih =>
    intro h
    have s := (hst_s (f := f) (N := N) (i := (n : Int)) (by omega)).1
    rw [show ((n + 1 : Nat) : Int) = (n : Int) + 1 by omega, s] at h
    unfold hsB at h
    split at h
    · omega
    · have q := hsN_k h
      unfold nxD
      by_cases e : hX f N (n : Int) = 2 ∨ hX f N (n : Int) = 3
      · rw [if_pos e]; omega
      · rw [if_neg e]; exact ih (by omega)
theorem rf_r {M : jm} (h : RI M) (x i : Int) : 0 ≤ rf M x i ∧ rf M x i ≤ 255 := by
  have q := h 601 (400 * x + i) (by decide)
  rw [xri_row rfl rfl] at q
  exact q
theorem lay2 {M : jm} {x i w a b : Int} (ha : a = bt w 1) (hb : b = bt w 0) : rf (ju (ju M 601 (400 * x + i) a) 601 (400 * x + i + 1) b) x = ptn (rf M x) i 2 w := by
  funext k
  unfold rf ptn
  by_cases q : k = i + 1
  · subst q
    rw [show 400 * x + (i + 1) = 400 * x + i + 1 by omega, ju_same, if_pos (by omega), show i + 2 - 1 - (i + 1) = 0 by omega, hb]
  · rw [ju_i _ _ (by omega)]
    by_cases q2 : k = i
    · subst q2
      rw [ju_same, if_pos (by omega), show k + 2 - 1 - k = 1 by omega, ha]
    · rw [ju_i _ _ (by omega), if_neg (by omega)]
theorem ptn_id {f : Int → Int} {y v : Int} (h : tw f y = v) (h0 : 0 ≤ f y ∧ f y ≤ 255) (h1 : 0 ≤ f (y + 1) ∧ f (y + 1) ≤ 255) : ptn f y 2 v = f := by
  funext k
  unfold ptn
  by_cases q : y ≤ k ∧ k < y + 2
  · rw [if_pos q]
    unfold tw at h
    rcases (show k = y ∨ k = y + 1 by omega) with e | e
    · subst e
      rw [show k + 2 - 1 - k = 1 by omega]
      show v / 256 % 256 = f k
      omega
    · subst e
      rw [show y + 2 - 1 - (y + 1) = 0 by omega]
      show v % 256 = f (y + 1)
      omega
  · rw [if_neg q]
theorem sb_9 {f : Int → Int} {a : Int} (h : 0 ≤ a) (n : Nat) : sb (fz f (-9)) a n = sb f a n := sb_e n (fun i h0 h1 => by unfold fz; rw [if_neg (by omega)])
/-- a row of bytes with two more -/
noncomputable def OX (M M' : jm) (x : Int) : Prop := ∀ j : Int, (j < 400 * x ∨ 400 * x + 400 ≤ j) → M' 601 j = M 601 j
theorem r_carried_L44_x {A : Nat → Option (Nat × (Nat → Int32))} {Q : Option Value → jm → Prop} {M0 : jm} {x0 : Int} {h0 : Int} {c0 : Int} (q : ∀ (r : Int) (M' : jm), RI M' → RH M' → RF M' → (-3) ≤ r ∧ r ≤ 12 → (((x0 < 0 ∨ 23 < x0 ∨ M0 600 x0 = -1) ∧ r = -2) ∨ (((0 ≤ x0 ∧ x0 ≤ 23) ∧ M0 600 x0 ≠ -1) ∧ ∃ C : Int, HE (rf M0 x0) (M0 600 x0) C ∧ (((h0 < 0 ∨ c0 < 0 ∨ C < h0 + c0) ∧ r = -3) ∨ ((0 ≤ h0 ∧ 0 ≤ c0 ∧ h0 + c0 ≤ C) ∧ r = crr (rf M0 x0) (M0 600 x0) c0.toNat h0)))) → (∀ (a : Nat) (i : Int), a ≠ 598 → a ≠ 603 → a ≠ 604 → a ≠ 605 → M' a i = M0 a i) → (∀ (i : Int), i ≠ 6 → i ≠ 10 → i ≠ 11 → i ≠ 12 → M' 598 i = M0 598 i) → Q (some (.int (Int32.ofInt r))) M') : ∀ (nM : Nat) (M : jm) (w : Int) (c : Int) (h : Int) (x : Int), RI M → RH M → RF M → (∀ (a : Nat) (i : Int), a ≠ 598 → a ≠ 603 → a ≠ 604 → a ≠ 605 → M a i = M0 a i) → (∀ (i : Int), i ≠ 6 → i ≠ 10 → i ≠ 11 → i ≠ 12 → M 598 i = M0 598 i) → 0 ≤ w ∧ w ≤ 12 → 0 ≤ c ∧ c ≤ 12 → 0 ≤ h ∧ h ≤ 12 → 0 ≤ x ∧ x ≤ 23 → w ≤ c → h + c ≤ 12 → HQ6 M (rf M0 x) (M0 600 x) → crr (rf M0 x) (M0 600 x) c.toNat h = w + crr (rf M0 x) (M0 600 x) (c - w).toNat (h + w) → h + c ≤ M 598 6 ∧ M0 600 x ≠ -1 → x = x0 → h = h0 → c = c0 → c - w ≤ nM → jr A 4 xm_278 44 [(4, .int (Int32.ofInt (w))), (3, .int (Int32.ofInt (c))), (2, .int (Int32.ofInt (h))), (1, .int (Int32.ofInt (x))), (0, .ref (598))] [] M Q := by
  intro nM
  induction nM using Nat.strongRecOn with
  | ind nM ih =>
    intro M w c h x hI_M hH_M hS_M hF_M hG_M h_w h_c h_h h_x hy0 hy1 hy2 hy3 hy4 hy5 hy6 hy7 hm
    subst hy5
    subst hy6
    subst hy7
    refine jr.iload rfl rfl ?_
    refine jr.iload_n rfl rfl ?_
    refine jr.icmp_ge rfl rfl (by omega) (by omega) (fun h47 => ?_) (fun h47 => ?_)
    · refine jr.iload rfl rfl ?_
      exact jr.ireturn rfl rfl rfl (q _ _ hI_M hH_M hS_M  (by omega) (Or.inr ⟨by omega, M 598 6, HQ6.e hy2, Or.inr ⟨by omega, by (rw [hy3, cr_0 (by omega)]; omega)⟩⟩) (fun a i f598 f603 f604 f605 => (hF_M a i f598 f603 f604 f605)) (fun i g6 g10 g11 g12 => (hG_M i g6 g10 g11 g12)))
    · refine jr.aload_n rfl rfl ?_
      refine jr.getf (i := 7) (v := .ref 603) rfl rfl (by decide) rfl (by decide) rfl rfl rfl rfl ?_
      refine jr.iload_n rfl rfl ?_
      refine jr.iload rfl rfl ?_
      refine jr.iadd rfl ?_
      obtain ⟨v1, e1⟩ : ∃ z, M 603 (h + w) = z := ⟨_, rfl⟩
      have b1 : 0 ≤ v1 ∧ v1 ≤ 11 := by rw [← e1]; exact (by have q := hI_M 603 (h + w) (by decide); rw [xri_row rfl rfl] at q; exact q)
      refine jr.iald (i := (h + w)) (x := v1) rfl (by decide) rfl (by decide) (by omega) (by omega) e1 ?_
      refine jr_s rfl rfl (Or.inl rfl) ⟨Nat.le_of_ble_eq_true rfl, Nat.le_of_ble_eq_true rfl⟩ rfl rfl (jc.deep (c_isCarried (by omega) (fun c59 => ?_) (fun c59 => ?_)) (by decide))
      · refine jr.if_eq rfl rfl (by omega) (fun h => absurd h (by decide)) (fun _ => ?_)
        refine jr.iinc (ls' := [_, _, _, _, _]) rfl rfl (by decide) rfl ?_
        refine jr.goto rfl rfl ?_
        refine jr.pick (ls := [_, _, _, _, _]) [0, 1, 2, 3, 4] rfl rfl ?_
        exact ih (nM - 1) (by omega) M (w + 1) c h x hI_M hH_M hS_M  (fun a i f598 f603 f604 f605 => (hF_M a i f598 f603 f604 f605)) (fun i g6 g10 g11 g12 => (hG_M i g6 g10 g11 g12)) (by omega) (by omega) (by omega) (by omega) (by omega) (by omega) hy2 (by have hr : M 603 (h + w) = _ := (hy2.2.1 (h + w) (by omega) (by omega)).2.1; rw [hy3, cr_s (by omega), if_pos (by omega), show c - w - 1 = c - (w + 1) from by omega, show h + w + 1 = h + (w + 1) from by omega]; omega) hy4 (by omega) (by omega) (by omega) (by omega)
      · refine jr.if_eq rfl rfl (by omega) (fun _ => ?_) (fun h => absurd (by decide) h)
        refine jr.iload rfl rfl ?_
        exact jr.ireturn rfl rfl rfl (q _ _ hI_M hH_M hS_M  (by omega) (Or.inr ⟨by omega, M 598 6, HQ6.e hy2, Or.inr ⟨by omega, by (have hr : M 603 (h + w) = _ := (hy2.2.1 (h + w) (by omega) (by omega)).2.1; rw [hy3, cr_s (by omega), if_neg (by omega)]; omega)⟩⟩) (fun a i f598 f603 f604 f605 => (hF_M a i f598 f603 f604 f605)) (fun i g6 g10 g11 g12 => (hG_M i g6 g10 g11 g12)))
theorem r_carried_x {A : Nat → Option (Nat × (Nat → Int32))} {Q : Option Value → jm → Prop} {M : jm} (hI_M : RI M) (hH_M : RH M) (hS_M : RF M) {x : Int} (h_x : (-2147483648) ≤ x ∧ x ≤ 2147483647) {h : Int} (h_h : (-2147483648) ≤ h ∧ h ≤ 2147483647) {c : Int} (h_c : (-2147483648) ≤ c ∧ c ≤ 2147483647) (q : ∀ (r : Int) (M' : jm), RI M' → RH M' → RF M' → (-3) ≤ r ∧ r ≤ 12 → (((x < 0 ∨ 23 < x ∨ M 600 x = -1) ∧ r = -2) ∨ (((0 ≤ x ∧ x ≤ 23) ∧ M 600 x ≠ -1) ∧ ∃ C : Int, HE (rf M x) (M 600 x) C ∧ (((h < 0 ∨ c < 0 ∨ C < h + c) ∧ r = -3) ∨ ((0 ≤ h ∧ 0 ≤ c ∧ h + c ≤ C) ∧ r = crr (rf M x) (M 600 x) c.toNat h)))) → (∀ (a : Nat) (i : Int), a ≠ 598 → a ≠ 603 → a ≠ 604 → a ≠ 605 → M' a i = M a i) → (∀ (i : Int), i ≠ 6 → i ≠ 10 → i ≠ 11 → i ≠ 12 → M' 598 i = M 598 i) → Q (some (.int (Int32.ofInt r))) M') : jc A 5 278 [.ref (598), .int (Int32.ofInt (x)), .int (Int32.ofInt (h)), .int (Int32.ofInt (c))] M Q := by
  refine jc_of (m := xm_278) rfl (Nat.le_of_ble_eq_true rfl) rfl ?_
  refine jr.aload_n rfl rfl ?_
  refine jr.iload_n rfl rfl ?_
  refine jr_v rfl rfl (Or.inl rfl) rfl rfl (by decide) rfl ⟨rfl, Nat.le_of_ble_eq_true rfl, Nat.le_of_ble_eq_true rfl⟩ rfl (jc.deep (c_isThere hI_M (by omega) (fun l2 u2 t2 => ?_) (fun n2 => ?_)) (by decide))
  · refine jr.if_ne rfl rfl (by omega) (fun _ => ?_) (fun h => absurd (by decide) h)
    refine jr.aload_n rfl rfl ?_
    refine jr.iload_n rfl rfl ?_
    obtain ⟨v2, e2⟩ : ∃ z, M 600 x = z := ⟨_, rfl⟩
    have b2 : (-1) ≤ v2 ∧ v2 ≤ 400 := by rw [← e2]; exact (by have q := hI_M 600 x (by decide); rw [xri_row rfl rfl] at q; exact q)
    refine jr_v rfl rfl (Or.inl rfl) rfl rfl (by decide) rfl ⟨rfl, Nat.le_of_ble_eq_true rfl, Nat.le_of_ble_eq_true rfl⟩ rfl (jc.deep (r_look_x hI_M hH_M hS_M  (by omega) (by rw [e2]; omega) (fun M1 hI_M1 hH_M1 hS_M1  w1_0 w1_1 w1_2 w1_3 => ?_)) (by decide))
    refine jr.iload_n rfl rfl ?_
    refine jr.if_lt rfl rfl (by omega) (fun h17 => ?_) (fun h17 => ?_)
    · refine jr.bipush rfl (by decide) ?_
      exact jr.ireturn rfl rfl rfl (q _ _ hI_M1 hH_M1 hS_M1  (by omega) (Or.inr ⟨by omega, M1 598 6, HQ6.e w1_1, Or.inl ⟨by omega, by omega⟩⟩) (fun a i f598 f603 f604 f605 => ((w1_2 a i f598 f603 f604 f605).trans rfl)) (fun i g6 g10 g11 g12 => ((w1_3 i g6 g10 g11 g12).trans rfl)))
    · refine jr.iload_n rfl rfl ?_
      refine jr.if_lt rfl rfl (by omega) (fun h21 => ?_) (fun h21 => ?_)
      · refine jr.bipush rfl (by decide) ?_
        exact jr.ireturn rfl rfl rfl (q _ _ hI_M1 hH_M1 hS_M1  (by omega) (Or.inr ⟨by omega, M1 598 6, HQ6.e w1_1, Or.inl ⟨by omega, by omega⟩⟩) (fun a i f598 f603 f604 f605 => ((w1_2 a i f598 f603 f604 f605).trans rfl)) (fun i g6 g10 g11 g12 => ((w1_3 i g6 g10 g11 g12).trans rfl)))
      · refine jr.iload_n rfl rfl ?_
        refine jr.i2l rfl (by omega) ?_
        refine jr.iload_n rfl rfl ?_
        refine jr.i2l rfl (by omega) ?_
        refine jr.ladd rfl ?_
        refine jr.aload_n rfl rfl ?_
        obtain ⟨v3, e3⟩ : ∃ z, M1 598 6 = z := ⟨_, rfl⟩
        have b3 : 0 ≤ v3 ∧ v3 ≤ 12 := by rw [← e3]; exact hI_M1 598 6 (by decide)
        refine jr.getf (i := 6) (x := v3) (v := .int (Int32.ofInt (v3))) rfl rfl (by decide) rfl (by decide) rfl rfl e3 rfl ?_
        refine jr.i2l rfl (by omega) ?_
        refine jr.lcmp_le rfl rfl rfl (by omega) (by omega) (fun h34 => ?_) (fun h34 => ?_)
        · refine jr.iconst rfl ?_
          refine jr.istore (ls' := [_, _, _, _, _]) rfl (by decide) rfl ?_
          refine jr.pick (ls := [_, _, _, _, _]) [0, 4, 3, 2, 1] rfl rfl ?_
          exact r_carried_L44_x q 12 M1 0 c h x hI_M1 hH_M1 hS_M1  (fun a i f598 f603 f604 f605 => ((w1_2 a i f598 f603 f604 f605).trans rfl)) (fun i g6 g10 g11 g12 => ((w1_3 i g6 g10 g11 g12).trans rfl)) (by omega) (by omega) (by omega) (by omega) (by omega) (by omega) w1_1 (by rw [show c - 0 = c from by omega, show h + 0 = h from by omega]; omega) (by omega) (by omega) (by omega) (by omega) (by omega)
        · refine jr.bipush rfl (by decide) ?_
          exact jr.ireturn rfl rfl rfl (q _ _ hI_M1 hH_M1 hS_M1  (by omega) (Or.inr ⟨by omega, M1 598 6, HQ6.e w1_1, Or.inl ⟨by omega, by omega⟩⟩) (fun a i f598 f603 f604 f605 => ((w1_2 a i f598 f603 f604 f605).trans rfl)) (fun i g6 g10 g11 g12 => ((w1_3 i g6 g10 g11 g12).trans rfl)))
  · refine jr.if_ne rfl rfl (by omega) (fun h => absurd h (by decide)) (fun _ => ?_)
    refine jr.bipush rfl (by decide) ?_
    exact jr.ireturn rfl rfl rfl (q _ _ hI_M hH_M hS_M  (by omega) (Or.inl ⟨by omega, by omega⟩) (fun a i f598 f603 f604 f605 => rfl) (fun i g6 g10 g11 g12 => rfl))
end
