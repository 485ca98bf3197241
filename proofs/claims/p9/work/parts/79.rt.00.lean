section
/-! ===== the reference: carried, sums, repair ===== -/
theorem hsN_k {f : Int → Int} {n k a z : Int} (h : 4 ≤ hsN f n k a z ∧ hsN f n k a z ≤ 9) : 2 ≤ k ∧ k ≤ 6 := by
  unfold hsN byK byN byQ at h
  (repeat' split at h) <;> omega
theorem hX_n (f : Int → Int) (N : Int) : ∀ n : Nat, 4 ≤ hX f N (n : Int) ∧ hX f N (n : Int) ≤ 9 → nxD f N n ≠ -1 := by
  intro n
  induction n with
  | zero => intro h; have : hX f N ((0 : Nat) : Int) = 0 := rfl; omega
  | succ n ih =>
    intro h
    have s := (hst_s (f := f) (N := N) (i := (n : Int)) (by omega)).1
    rw [show ((n + 1 : Nat) : Int) = (n : Int) + 1 by omega, s] at h
    unfold hsB at h
    split at h
    · omega
    · have q := hsN_k h
      unfold nxD
      by_cases e : hX f N (n : Int) = 2 ∨ hX f N (n : Int) = 3
      · rw [if_pos e]; omega
      · rw [if_neg e]; exact ih (by omega)
theorem rf_r {M : jm} (h : RI M) (x i : Int) : 0 ≤ rf M x i ∧ rf M x i ≤ 255 := by
  have q := h 601 (400 * x + i) (by decide)
  rw [xri_row rfl rfl] at q
  exact q
theorem lay2 {M : jm} {x i w a b : Int} (ha : a = bt w 1) (hb : b = bt w 0) : rf (ju (ju M 601 (400 * x + i) a) 601 (400 * x + i + 1) b) x = ptn (rf M x) i 2 w := by
  funext k
  unfold rf ptn
  by_cases q : k = i + 1
  · subst q
    rw [show 400 * x + (i + 1) = 400 * x + i + 1 by omega, ju_same, if_pos (by omega), show i + 2 - 1 - (i + 1) = 0 by omega, hb]
  · rw [ju_i _ _ (by omega)]
    by_cases q2 : k = i
    · subst q2
      rw [ju_same, if_pos (by omega), show k + 2 - 1 - k = 1 by omega, ha]
    · rw [ju_i _ _ (by omega), if_neg (by omega)]
theorem ptn_id {f : Int → Int} {y v : Int} (h : tw f y = v) (h0 : 0 ≤ f y ∧ f y ≤ 255) (h1 : 0 ≤ f (y + 1) ∧ f (y + 1) ≤ 255) : ptn f y 2 v = f := by
  funext k
  unfold ptn
  by_cases q : y ≤ k ∧ k < y + 2
  · rw [if_pos q]
    unfold tw at h
    rcases (show k = y ∨ k = y + 1 by omega) with e | e
    · subst e
      rw [show k + 2 - 1 - k = 1 by omega]
      show v / 256 % 256 = f k
      omega
    · subst e
      rw [show y + 2 - 1 - (y + 1) = 0 by omega]
      show v % 256 = f (y + 1)
      omega
  · rw [if_neg q]
theorem sb_9 {f : Int → Int} {a : Int} (h : 0 ≤ a) (n : Nat) : sb (fz f (-9)) a n = sb f a n := sb_e n (fun i h0 h1 => by unfold fz; rw [if_neg (by omega)])
/-- a row of bytes with two more -/
noncomputable def OX (M M' : jm) (x : Int) : Prop := ∀ j : Int, (j < 400 * x ∨ 400 * x + 400 ≤ j) → M' 601 j = M 601 j
theorem r_carried_L44_x {A : Nat → Option (Nat × (Nat → Int32))} {Q : Option Value → jm → Prop} {M0 : jm} {x0 : Int} {h0 : Int} {c0 : Int} (q : ∀ (r : Int) (M' : jm), RI M' → RH M' → RF M' → (-3) ≤ r ∧ r ≤ 12 → (((x0 < 0 ∨ 23 < x0 ∨ M0 600 x0 = -1) ∧ r = -2) ∨ (((0 ≤ x0 ∧ x0 ≤ 23) ∧ M0 600 x0 ≠ -1) ∧ ∃ C : Int, HE (rf M0 x0) (M0 600 x0) C ∧ (((h0 < 0 ∨ c0 < 0 ∨ C < h0 + c0) ∧ r = -3) ∨ ((0 ≤ h0 ∧ 0 ≤ c0 ∧ h0 + c0 ≤ C) ∧ r = crr (rf M0 x0) (M0 600 x0) c0.toNat h0)))) → (∀ (a : Nat) (i : Int), a ≠ 598 → a ≠ 603 → a ≠ 604 → a ≠ 605 → M' a i = M0 a i) → (∀ (i : Int), i ≠ 6 → i ≠ 10 → i ≠ 11 → i ≠ 12 → M' 598 i = M0 598 i) → Q (some (.int (Int32.ofInt r))) M') : ∀ (nM : Nat) (M : jm) (w : Int) (c : Int) (h : Int) (x : Int), RI M → RH M → RF M → (∀ (a : Nat) (i : Int), a ≠ 598 → a ≠ 603 → a ≠ 604 → a ≠ 605 → M a i = M0 a i) → (∀ (i : Int), i ≠ 6 → i ≠ 10 → i ≠ 11 → i ≠ 12 → M 598 i = M0 598 i) → 0 ≤ w ∧ w ≤ 12 → 0 ≤ c ∧ c ≤ 12 → 0 ≤ h ∧ h ≤ 12 → 0 ≤ x ∧ x ≤ 23 → w ≤ c → h + c ≤ 12 → HQ6 M (rf M0 x) (M0 600 x) → crr (rf M0 x) (M0 600 x) c.toNat h = w + crr (rf M0 x) (M0 600 x) (c - w).toNat (h + w) → h + c ≤ M 598 6 ∧ M0 600 x ≠ -1 → x = x0 → h = h0 → c = c0 → c - w ≤ nM → jr A 4 xm_278 44 [(4, .int (Int32.ofInt (w))), (3, .int (Int32.ofInt (c))), (2, .int (Int32.ofInt (h))), (1, .int (Int32.ofInt (x))), (0, .ref (598))] [] M Q := by
  intro nM
  induction nM using Nat.strongRecOn with
  | ind nM ih =>
    intro M w c h x hI_M hH_M hS_M hF_M hG_M h_w h_c h_h h_x hy0 hy1 hy2 hy3 hy4 hy5 hy6 hy7 hm
    subst hy5
    subst hy6
    subst hy7
    refine jr.iload rfl rfl ?_
    refine jr.iload_n rfl rfl ?_
    refine jr.icmp_ge rfl rfl (by omega) (by omega) (fun h47 => ?_) (fun h47 => ?_)
    · refine jr.iload rfl rfl ?_
      exact jr.ireturn rfl rfl rfl (q _ _ hI_M hH_M hS_M  (by omega) (Or.inr ⟨by omega, M 598 6, HQ6.e hy2, Or.inr ⟨by omega, by (rw [hy3, cr_0 (by omega)]; omega)⟩⟩) (fun a i f598 f603 f604 f605 => (hF_M a i f598 f603 f604 f605)) (fun i g6 g10 g11 g12 => (hG_M i g6 g10 g11 g12)))
    · refine jr.aload_n rfl rfl ?_
      refine jr.getf (i := 7) (v := .ref 603) rfl rfl (by decide) rfl (by decide) rfl rfl rfl rfl ?_
      refine jr.iload_n rfl rfl ?_
      refine jr.iload rfl rfl ?_
      refine jr.iadd rfl ?_
      obtain ⟨v1, e1⟩ : ∃ z, M 603 (h + w) = z := ⟨_, rfl⟩
      have b1 : 0 ≤ v1 ∧ v1 ≤ 11 := by rw [← e1]; exact (by have q := hI_M 603 (h + w) (by decide); rw [xri_row rfl rfl] at q; exact q)
      refine jr.iald (i := (h + w)) (x := v1) rfl (by decide) rfl (by decide) (by omega) (by omega) e1 ?_
      refine jr_s rfl rfl (Or.inl rfl) ⟨Nat.le_of_ble_eq_true rfl, Nat.le_of_ble_eq_true rfl⟩ rfl rfl (jc.deep (c_isCarried (by omega) (fun c59 => ?_) (fun c59 => ?_)) (by decide))
      · refine jr.if_eq rfl rfl (by omega) (fun h => absurd h (by decide)) (fun _ => ?_)
        refine jr.iinc rfl rfl (by decide) rfl ?_
        refine jr.goto rfl rfl ?_
        refine jr.pick [0, 1, 2, 3, 4] rfl rfl ?_
        exact ih (nM - 1) (by omega) M (w + 1) c h x hI_M hH_M hS_M  (fun a i f598 f603 f604 f605 => (hF_M a i f598 f603 f604 f605)) (fun i g6 g10 g11 g12 => (hG_M i g6 g10 g11 g12)) (by omega) (by omega) (by omega) (by omega) (by omega) (by omega) hy2 (by have hr : M 603 (h + w) = _ := (hy2.2.1 (h + w) (by omega) (by omega)).2.1; rw [hy3, cr_s (by omega), if_pos (by omega), show c - w - 1 = c - (w + 1) from by omega, show h + w + 1 = h + (w + 1) from by omega]; omega) hy4 (by omega) (by omega) (by omega) (by omega)
      · refine jr.if_eq rfl rfl (by omega) (fun _ => ?_) (fun h => absurd (by decide) h)
        refine jr.iload rfl rfl ?_
        exact jr.ireturn rfl rfl rfl (q _ _ hI_M hH_M hS_M  (by omega) (Or.inr ⟨by omega, M 598 6, HQ6.e hy2, Or.inr ⟨by omega, by (have hr : M 603 (h + w) = _ := (hy2.2.1 (h + w) (by omega) (by omega)).2.1; rw [hy3, cr_s (by omega), if_neg (by omega)]; omega)⟩⟩) (fun a i f598 f603 f604 f605 => (hF_M a i f598 f603 f604 f605)) (fun i g6 g10 g11 g12 => (hG_M i g6 g10 g11 g12)))
theorem r_carried_x {A : Nat → Option (Nat × (Nat → Int32))} {Q : Option Value → jm → Prop} {M : jm} (hI_M : RI M) (hH_M : RH M) (hS_M : RF M) {x : Int} (h_x : (-2147483648) ≤ x ∧ x ≤ 2147483647) {h : Int} (h_h : (-2147483648) ≤ h ∧ h ≤ 2147483647) {c : Int} (h_c : (-2147483648) ≤ c ∧ c ≤ 2147483647) (q : ∀ (r : Int) (M' : jm), RI M' → RH M' → RF M' → (-3) ≤ r ∧ r ≤ 12 → (((x < 0 ∨ 23 < x ∨ M 600 x = -1) ∧ r = -2) ∨ (((0 ≤ x ∧ x ≤ 23) ∧ M 600 x ≠ -1) ∧ ∃ C : Int, HE (rf M x) (M 600 x) C ∧ (((h < 0 ∨ c < 0 ∨ C < h + c) ∧ r = -3) ∨ ((0 ≤ h ∧ 0 ≤ c ∧ h + c ≤ C) ∧ r = crr (rf M x) (M 600 x) c.toNat h)))) → (∀ (a : Nat) (i : Int), a ≠ 598 → a ≠ 603 → a ≠ 604 → a ≠ 605 → M' a i = M a i) → (∀ (i : Int), i ≠ 6 → i ≠ 10 → i ≠ 11 → i ≠ 12 → M' 598 i = M 598 i) → Q (some (.int (Int32.ofInt r))) M') : jc A 5 278 [.ref (598), .int (Int32.ofInt (x)), .int (Int32.ofInt (h)), .int (Int32.ofInt (c))] M Q := by
  refine jc_of (m := xm_278) rfl (Nat.le_of_ble_eq_true rfl) rfl ?_
  refine jr.aload_n rfl rfl ?_
  refine jr.iload_n rfl rfl ?_
  refine jr_v rfl rfl (Or.inl rfl) rfl rfl (by decide) rfl ⟨rfl, Nat.le_of_ble_eq_true rfl, Nat.le_of_ble_eq_true rfl⟩ rfl (jc.deep (c_isThere hI_M (by omega) (fun l2 u2 t2 => ?_) (fun n2 => ?_)) (by decide))
  · refine jr.if_ne rfl rfl (by omega) (fun _ => ?_) (fun h => absurd (by decide) h)
    refine jr.aload_n rfl rfl ?_
    refine jr.iload_n rfl rfl ?_
    obtain ⟨v2, e2⟩ : ∃ z, M 600 x = z := ⟨_, rfl⟩
    have b2 : (-1) ≤ v2 ∧ v2 ≤ 400 := by rw [← e2]; exact (by have q := hI_M 600 x (by decide); rw [xri_row rfl rfl] at q; exact q)
    refine jr_v rfl rfl (Or.inl rfl) rfl rfl (by decide) rfl ⟨rfl, Nat.le_of_ble_eq_true rfl, Nat.le_of_ble_eq_true rfl⟩ rfl (jc.deep (r_look_x hI_M hH_M hS_M  (by omega) (by rw [e2]; omega) (fun M1 hI_M1 hH_M1 hS_M1  w1_0 w1_1 w1_2 w1_3 => ?_)) (by decide))
    refine jr.iload_n rfl rfl ?_
    refine jr.if_lt rfl rfl (by omega) (fun h17 => ?_) (fun h17 => ?_)
    · refine jr.bipush rfl (by decide) ?_
      exact jr.ireturn rfl rfl rfl (q _ _ hI_M1 hH_M1 hS_M1  (by omega) (Or.inr ⟨by omega, M1 598 6, HQ6.e w1_1, Or.inl ⟨by omega, by omega⟩⟩) (fun a i f598 f603 f604 f605 => ((w1_2 a i f598 f603 f604 f605).trans rfl)) (fun i g6 g10 g11 g12 => ((w1_3 i g6 g10 g11 g12).trans rfl)))
    · refine jr.iload_n rfl rfl ?_
      refine jr.if_lt rfl rfl (by omega) (fun h21 => ?_) (fun h21 => ?_)
      · refine jr.bipush rfl (by decide) ?_
        exact jr.ireturn rfl rfl rfl (q _ _ hI_M1 hH_M1 hS_M1  (by omega) (Or.inr ⟨by omega, M1 598 6, HQ6.e w1_1, Or.inl ⟨by omega, by omega⟩⟩) (fun a i f598 f603 f604 f605 => ((w1_2 a i f598 f603 f604 f605).trans rfl)) (fun i g6 g10 g11 g12 => ((w1_3 i g6 g10 g11 g12).trans rfl)))
      · refine jr.iload_n rfl rfl ?_
        refine jr.i2l rfl (by omega) ?_
        refine jr.iload_n rfl rfl ?_
        refine jr.i2l rfl (by omega) ?_
        refine jr.ladd rfl ?_
        refine jr.aload_n rfl rfl ?_
        obtain ⟨v3, e3⟩ : ∃ z, M1 598 6 = z := ⟨_, rfl⟩
        have b3 : 0 ≤ v3 ∧ v3 ≤ 12 := by rw [← e3]; exact hI_M1 598 6 (by decide)
        refine jr.getf (i := 6) (x := v3) (v := .int (Int32.ofInt (v3))) rfl rfl (by decide) rfl (by decide) rfl rfl e3 rfl ?_
        refine jr.i2l rfl (by omega) ?_
        refine jr.lcmp_le rfl rfl rfl (by omega) (by omega) (fun h34 => ?_) (fun h34 => ?_)
        · refine jr.iconst rfl ?_
          refine jr.istore rfl (by decide) rfl ?_
          refine jr.pick [0, 4, 3, 2, 1] rfl rfl ?_
          exact r_carried_L44_x q 12 M1 0 c h x hI_M1 hH_M1 hS_M1  (fun a i f598 f603 f604 f605 => ((w1_2 a i f598 f603 f604 f605).trans rfl)) (fun i g6 g10 g11 g12 => ((w1_3 i g6 g10 g11 g12).trans rfl)) (by omega) (by omega) (by omega) (by omega) (by omega) (by omega) w1_1 (by rw [show c - 0 = c from by omega, show h + 0 = h from by omega]; omega) (by omega) (by omega) (by omega) (by omega) (by omega)
        · refine jr.bipush rfl (by decide) ?_
          exact jr.ireturn rfl rfl rfl (q _ _ hI_M1 hH_M1 hS_M1  (by omega) (Or.inr ⟨by omega, M1 598 6, HQ6.e w1_1, Or.inl ⟨by omega, by omega⟩⟩) (fun a i f598 f603 f604 f605 => ((w1_2 a i f598 f603 f604 f605).trans rfl)) (fun i g6 g10 g11 g12 => ((w1_3 i g6 g10 g11 g12).trans rfl)))
  · refine jr.if_ne rfl rfl (by omega) (fun h => absurd h (by decide)) (fun _ => ?_)
    refine jr.bipush rfl (by decide) ?_
    exact jr.ireturn rfl rfl rfl (q _ _ hI_M hH_M hS_M  (by omega) (Or.inl ⟨by omega, by omega⟩) (fun a i f598 f603 f604 f605 => rfl) (fun i g6 g10 g11 g12 => rfl))
theorem r_added_L6_x {A : Nat → Option (Nat × (Nat → Int32))} {Q : Option Value → jm → Prop} {x0 : Int} {u0 : Int} {t0 : Int} {b0 : Int} {M : jm} (hI_M : RI M) (hH_M : RH M) (hS_M : RF M) (q : ∀ (r : Int), 0 ≤ r ∧ r ≤ 30000000 → r = sb (fz (rf M x0) b0) u0 (t0 - u0).toNat → Q (some (.long (Int64.ofInt r))) M) : ∀ (nM : Nat) (k : Int) (s : Int) (b : Int) (t : Int) (u : Int) (x : Int), 0 ≤ k ∧ k ≤ 400 → 0 ≤ s ∧ s ≤ 30000000 → (-2000) ≤ b ∧ b ≤ 2000 → 0 ≤ t ∧ t ≤ 400 → 0 ≤ u ∧ u ≤ 400 → 0 ≤ x ∧ x ≤ 23 → s = sb (fz (rf M x) b) u (k - u).toNat → u ≤ k ∧ k ≤ t → s ≤ 65280 * (k - u) → x = x0 → u = u0 → t = t0 → b = b0 → 400 - k ≤ nM → jr A 1 xm_279 6 [(7, .int (Int32.ofInt (k))), (5, .long (Int64.ofInt (s))), (4, .int (Int32.ofInt (b))), (3, .int (Int32.ofInt (t))), (2, .int (Int32.ofInt (u))), (1, .int (Int32.ofInt (x))), (0, .ref (598))] [] M Q := by
  intro nM
  induction nM using Nat.strongRecOn with
  | ind nM ih =>
    intro k s b t u x h_k h_s h_b h_t h_u h_x hy0 hy1 hy2 hy3 hy4 hy5 hy6 hm
    subst hy3
    subst hy4
    subst hy5
    subst hy6
    refine jr.iload rfl rfl ?_
    refine jr.iload_n rfl rfl ?_
    refine jr.icmp_ge rfl rfl (by omega) (by omega) (fun h9 => ?_) (fun h9 => ?_)
    · refine jr.lload rfl rfl ?_
      exact jr.lreturn rfl rfl (q _ (by omega) (by rw [← show k = t from by omega]; exact hy0))
    · refine jr.iload rfl rfl ?_
      refine jr.iload rfl rfl ?_
      refine jr.icmp_eq rfl rfl (by omega) (by omega) (fun h16 => ?_) (fun h16 => ?_)
      · refine jr.iconst rfl ?_
        refine jr.goto rfl rfl ?_
        refine jr.istore rfl (by decide) rfl ?_
        refine jr.lload rfl rfl ?_
        refine jr.iload rfl rfl ?_
        refine jr.iload_n rfl rfl ?_
        refine jr.isub rfl ?_
        refine jr.iconst rfl ?_
        refine jr.irem rfl (by decide) ?_
        have b1 : j_rem (k - u) 2 = (k - u) % 2 := j_rem_ex (by omega) (by omega)
        generalize j_rem (k - u) 2 = v1 at b1 ⊢
        refine jr.if_ne rfl rfl (by omega) (fun h49 => ?_) (fun h49 => ?_)
        · refine jr.iload rfl rfl ?_
          refine jr.i2l rfl (by omega) ?_
          refine jr.ladd rfl ?_
          refine jr.lstore rfl (by decide) rfl ?_
          refine jr.iinc rfl rfl (by decide) rfl ?_
          refine jr.goto rfl rfl ?_
          refine jr.pick [0, 1, 3, 4, 5, 6, 7] rfl rfl ?_
          exact ih (nM - 1) (by omega) (k + 1) (s + 0) b t u x (by omega) (by omega) (by omega) (by omega) (by omega) (by omega) (by rw [sb_s (by omega), ← hy0]; unfold fz; (try rw [rf_a]); (repeat' split) <;> omega) (by omega) (by omega) (by omega) (by omega) (by omega) (by omega) (by omega)
        · refine jr.iload rfl rfl ?_
          refine jr.bipush rfl (by decide) ?_
          refine jr.ishl rfl ?_
          have b2 : j_shl 0 8 = 0 * 256 := j_shl_ex 8 (by decide) (by omega) (by omega)
          generalize j_shl 0 8 = v2 at b2 ⊢
          refine jr.i2l rfl (by omega) ?_
          refine jr.goto rfl rfl ?_
          refine jr.ladd rfl ?_
          refine jr.lstore rfl (by decide) rfl ?_
          refine jr.iinc rfl rfl (by decide) rfl ?_
          refine jr.goto rfl rfl ?_
          refine jr.pick [0, 1, 3, 4, 5, 6, 7] rfl rfl ?_
          exact ih (nM - 1) (by omega) (k + 1) (s + v2) b t u x (by omega) (by omega) (by omega) (by omega) (by omega) (by omega) (by rw [sb_s (by omega), ← hy0]; unfold fz; (try rw [rf_a]); (repeat' split) <;> omega) (by omega) (by omega) (by omega) (by omega) (by omega) (by omega) (by omega)
      · refine jr.iload rfl rfl ?_
        refine jr.iload rfl rfl ?_
        refine jr.iconst rfl ?_
        refine jr.iadd rfl ?_
        refine jr.icmp_ne rfl rfl (by omega) (by omega) (fun h25 => ?_) (fun h25 => ?_)
        · refine jr.aload_n rfl rfl ?_
          refine jr.iload_n rfl rfl ?_
          refine jr.iload rfl rfl ?_
          refine jr_v rfl rfl (Or.inl rfl) rfl rfl (by decide) rfl ⟨rfl, Nat.le_of_ble_eq_true rfl, Nat.le_of_ble_eq_true rfl⟩ rfl (jc.deep (r_one hI_M hH_M hS_M (Kp.rfl _) (by omega) (by omega)  (fun r3 z3 w3_0 => ?_)) (by decide))
          refine jr.istore rfl (by decide) rfl ?_
          refine jr.lload rfl rfl ?_
          refine jr.iload rfl rfl ?_
          refine jr.iload_n rfl rfl ?_
          refine jr.isub rfl ?_
          refine jr.iconst rfl ?_
          refine jr.irem rfl (by decide) ?_
          have b4 : j_rem (k - u) 2 = (k - u) % 2 := j_rem_ex (by omega) (by omega)
          generalize j_rem (k - u) 2 = v4 at b4 ⊢
          refine jr.if_ne rfl rfl (by omega) (fun h49 => ?_) (fun h49 => ?_)
          · refine jr.iload rfl rfl ?_
            refine jr.i2l rfl (by omega) ?_
            refine jr.ladd rfl ?_
            refine jr.lstore rfl (by decide) rfl ?_
            refine jr.iinc rfl rfl (by decide) rfl ?_
            refine jr.goto rfl rfl ?_
            refine jr.pick [0, 1, 3, 4, 5, 6, 7] rfl rfl ?_
            exact ih (nM - 1) (by omega) (k + 1) (s + r3) b t u x (by omega) (by omega) (by omega) (by omega) (by omega) (by omega) (by rw [sb_s (by omega), ← hy0]; unfold fz; (try rw [rf_a]); (repeat' split) <;> omega) (by omega) (by omega) (by omega) (by omega) (by omega) (by omega) (by omega)
          · refine jr.iload rfl rfl ?_
            refine jr.bipush rfl (by decide) ?_
            refine jr.ishl rfl ?_
            have b5 : j_shl r3 8 = r3 * 256 := j_shl_ex 8 (by decide) (by omega) (by omega)
            generalize j_shl r3 8 = v5 at b5 ⊢
            refine jr.i2l rfl (by omega) ?_
            refine jr.goto rfl rfl ?_
            refine jr.ladd rfl ?_
            refine jr.lstore rfl (by decide) rfl ?_
            refine jr.iinc rfl rfl (by decide) rfl ?_
            refine jr.goto rfl rfl ?_
            refine jr.pick [0, 1, 3, 4, 5, 6, 7] rfl rfl ?_
            exact ih (nM - 1) (by omega) (k + 1) (s + v5) b t u x (by omega) (by omega) (by omega) (by omega) (by omega) (by omega) (by rw [sb_s (by omega), ← hy0]; unfold fz; (try rw [rf_a]); (repeat' split) <;> omega) (by omega) (by omega) (by omega) (by omega) (by omega) (by omega) (by omega)
        · refine jr.iconst rfl ?_
          refine jr.goto rfl rfl ?_
          refine jr.istore rfl (by decide) rfl ?_
          refine jr.lload rfl rfl ?_
          refine jr.iload rfl rfl ?_
          refine jr.iload_n rfl rfl ?_
          refine jr.isub rfl ?_
          refine jr.iconst rfl ?_
          refine jr.irem rfl (by decide) ?_
          have b6 : j_rem (k - u) 2 = (k - u) % 2 := j_rem_ex (by omega) (by omega)
          generalize j_rem (k - u) 2 = v6 at b6 ⊢
          refine jr.if_ne rfl rfl (by omega) (fun h49 => ?_) (fun h49 => ?_)
          · refine jr.iload rfl rfl ?_
            refine jr.i2l rfl (by omega) ?_
            refine jr.ladd rfl ?_
            refine jr.lstore rfl (by decide) rfl ?_
            refine jr.iinc rfl rfl (by decide) rfl ?_
            refine jr.goto rfl rfl ?_
            refine jr.pick [0, 1, 3, 4, 5, 6, 7] rfl rfl ?_
            exact ih (nM - 1) (by omega) (k + 1) (s + 0) b t u x (by omega) (by omega) (by omega) (by omega) (by omega) (by omega) (by rw [sb_s (by omega), ← hy0]; unfold fz; (try rw [rf_a]); (repeat' split) <;> omega) (by omega) (by omega) (by omega) (by omega) (by omega) (by omega) (by omega)
          · refine jr.iload rfl rfl ?_
            refine jr.bipush rfl (by decide) ?_
            refine jr.ishl rfl ?_
            have b7 : j_shl 0 8 = 0 * 256 := j_shl_ex 8 (by decide) (by omega) (by omega)
            generalize j_shl 0 8 = v7 at b7 ⊢
            refine jr.i2l rfl (by omega) ?_
            refine jr.goto rfl rfl ?_
            refine jr.ladd rfl ?_
            refine jr.lstore rfl (by decide) rfl ?_
            refine jr.iinc rfl rfl (by decide) rfl ?_
            refine jr.goto rfl rfl ?_
            refine jr.pick [0, 1, 3, 4, 5, 6, 7] rfl rfl ?_
            exact ih (nM - 1) (by omega) (k + 1) (s + v7) b t u x (by omega) (by omega) (by omega) (by omega) (by omega) (by omega) (by rw [sb_s (by omega), ← hy0]; unfold fz; (try rw [rf_a]); (repeat' split) <;> omega) (by omega) (by omega) (by omega) (by omega) (by omega) (by omega) (by omega)
theorem r_added_x {A : Nat → Option (Nat × (Nat → Int32))} {Q : Option Value → jm → Prop} {M : jm} (hI_M : RI M) (hH_M : RH M) (hS_M : RF M) {x : Int} (h_x : 0 ≤ x ∧ x ≤ 23) {u : Int} (h_u : 0 ≤ u ∧ u ≤ 400) {t : Int} (h_t : 0 ≤ t ∧ t ≤ 400) {b : Int} (h_b : (-2000) ≤ b ∧ b ≤ 2000) (p0 : u ≤ t) (q : ∀ (r : Int), 0 ≤ r ∧ r ≤ 30000000 → r = sb (fz (rf M x) b) u (t - u).toNat → Q (some (.long (Int64.ofInt r))) M) : jc A 2 279 [.ref (598), .int (Int32.ofInt (x)), .int (Int32.ofInt (u)), .int (Int32.ofInt (t)), .int (Int32.ofInt (b))] M Q := by
  refine jc_of (m := xm_279) rfl (Nat.le_of_ble_eq_true rfl) rfl ?_
  refine jr.lconst (x := 0) rfl (by decide) ?_
  refine jr.lstore rfl (by decide) rfl ?_
  refine jr.iload_n rfl rfl ?_
  refine jr.istore rfl (by decide) rfl ?_
  refine jr.pick [0, 1, 6, 5, 4, 3, 2] rfl rfl ?_
  exact r_added_L6_x hI_M hH_M hS_M q 400 u 0 b t u x (by omega) (by omega) (by omega) (by omega) (by omega) (by omega) (sb_0 _ _).symm (by omega) (by omega) (by omega) (by omega) (by omega) (by omega) (by omega)
theorem r_turned_L2_x {A : Nat → Option (Nat × (Nat → Int32))} {Q : Option Value → jm → Prop} {w0 : Int} {M : jm} (hI_M : RI M) (hH_M : RH M) (hS_M : RF M) (q : ∀ (r : Int), 0 ≤ r ∧ r ≤ 65535 → r = tn w0 → Q (some (.int (Int32.ofInt r))) M) : ∀ (nM : Nat) (v : Int) (w : Int), 0 ≤ v ∧ v ≤ 4294967295 → 0 ≤ w ∧ w ≤ 4294967295 → fin v = fin w → w = w0 → v ≤ nM → jr A 0 xm_280 2 [(2, .long (Int64.ofInt (v))), (0, .long (Int64.ofInt (w)))] [] M Q := by
  intro nM
  induction nM using Nat.strongRecOn with
  | ind nM ih =>
    intro v w h_v h_w hy0 hy1 hm
    subst hy1
    refine jr.lload_n rfl rfl ?_
    refine jr.ldc2 (x := 65535) rfl rfl (by decide) ?_
    refine jr.lcmp_le rfl rfl rfl (by omega) (by omega) (fun h6 => ?_) (fun h6 => ?_)
    · refine jr.ldc2 (x := 65535) rfl rfl (by decide) ?_
      refine jr.lload_n rfl rfl ?_
      refine jr.lsub rfl ?_
      refine jr.l2i rfl ?_
      exact jr.ireturn rfl rfl rfl (q _ (by omega) (by unfold tn; rw [← hy0, fin_e (by omega)]))
    · refine jr.lload_n rfl rfl ?_
      refine jr.ldc2 (x := 65535) rfl rfl (by decide) ?_
      refine jr.land rfl ?_
      have b1 : jl_and v 65535 = v % 65536 := jl_and_mask 16 (by decide) (by omega) (by omega)
      generalize jl_and v 65535 = v1 at b1 ⊢
      refine jr.lload_n rfl rfl ?_
      refine jr.bipush rfl (by decide) ?_
      refine jr.lshr rfl ?_
      have b2 : jl_shr v 16 = v / 65536 := jl_shr_ex 16 (by decide) (by omega) (by omega)
      generalize jl_shr v 16 = v2 at b2 ⊢
      refine jr.ladd rfl ?_
      refine jr.lstore_n rfl (by decide) rfl ?_
      refine jr.goto rfl rfl ?_
      refine jr.pick [0, 1] rfl rfl ?_
      exact ih (nM - 1) (by omega) (v1 + v2) w (by omega) (by omega) (by have hq := fin_s (v := v) (by omega) (by omega); rw [← hy0, ← hq.1]; unfold fo; congr 1; omega) (by omega) (by omega)
theorem r_turned_x {A : Nat → Option (Nat × (Nat → Int32))} {Q : Option Value → jm → Prop} {M : jm} (hI_M : RI M) (hH_M : RH M) (hS_M : RF M) {w : Int} (h_w : 0 ≤ w ∧ w ≤ 4294967295) (q : ∀ (r : Int), 0 ≤ r ∧ r ≤ 65535 → r = tn w → Q (some (.int (Int32.ofInt r))) M) : jc A 1 280 [.long (Int64.ofInt (w))] M Q := by
  refine jc_of (m := xm_280) rfl (Nat.le_of_ble_eq_true rfl) rfl ?_
  refine jr.lload_n rfl rfl ?_
  refine jr.lstore_n rfl (by decide) rfl ?_
  refine jr.pick [0, 1] rfl rfl ?_
  exact r_turned_L2_x hI_M hH_M hS_M q 4294967295 w w (by omega) (by omega) rfl (by omega) (by omega)
end
section
/-! ===== the reference: sumOf, right, repair ===== -/
/-- headers of f, N stand in the reference, C of them -/
noncomputable def HT (M : jm) (f : Int → Int) (N C : Int) : Prop := M 598 6 = C ∧ HR M 602 f N C ∧ (0 ≤ N ∧ N ≤ 400) ∧ ∀ i : Int, 0 ≤ i → i < 400 → 0 ≤ f i ∧ f i ≤ 255
theorem HQ6.t {M : jm} {f : Int → Int} {N : Int} (h : HQ6 M f N) (hN : 0 ≤ N ∧ N ≤ 400) (hf : ∀ i : Int, 0 ≤ i → i < 400 → 0 ≤ f i ∧ f i ≤ 255) : HT M f N (M 598 6) := ⟨rfl, h.2.1, hN, hf⟩
theorem HT.f {M : jm} {f : Int → Int} {N C x : Int} (h : HT M f N C) (hx : 0 ≤ x ∧ x < C) : M 603 x = hX f N x ∧ M 604 x = hY f N x ∧ M 605 x = hZ f N x ∧ hY f N x + lst (hX f N x) ≤ N ∧ hY f N x + hZ f N x ≤ N ∧ 0 ≤ hZ f N x ∧ ¬ ((hX f N x = 2 ∨ hX f N x = 8) ∧ hZ f N x < 20) := by
  have hr := h.2.1 x hx.1 hx.2
  have hl := hok_l hr.1 h.2.2.2 h.2.2.1.2
  exact ⟨hr.2.1, hr.2.2.1, hr.2.2.2, hl.1, hl.2.1, hl.2.2.1, hl.2.2.2⟩
theorem HT.o {M M1 : jm} {f : Int → Int} {N C : Int} (h : HT M f N C) (g : ∀ (b : Nat) (i : Int), b ≠ 601 → M1 b i = M b i) : HT M1 f N C := by
  refine ⟨by rw [g 598 6 (by decide)]; exact h.1, fun i h0 h1 => ?_, h.2.2.1, h.2.2.2⟩
  have q := h.2.1 i h0 h1
  rw [g (602 + 1) i (by decide), g (602 + 2) i (by decide), g (602 + 3) i (by decide)]
  exact q
theorem dS_2 {f f1 : Int → Int} {N C x Y Z : Int} (hx : 0 ≤ x ∧ x < C) (hk : hX f N x = 2) (hy : hY f N x = Y) (hz : hZ f N x = Z) : dS f f1 N C x = tn (sb (fz f1 (Y + 10)) Y (Y + Z - Y).toNat) := by
  unfold dS dS0
  rw [kA_i hx, hk, if_pos (Or.inl rfl), if_pos rfl, hy, hz]
  rfl
theorem dS_7 {f f1 : Int → Int} {N C x Y : Int} (hx : 0 ≤ x ∧ x < C) (hk : hX f N x = 7) (hy : hY f N x = Y) : dS f f1 N C x = tn (sb (fz f1 (Y + sof 7)) Y (N - Y).toNat) := by
  unfold dS dS0
  rw [kA_i hx, hk, if_pos (Or.inr rfl), if_neg (by decide), hy]
theorem dS_n {f f1 : Int → Int} {N C x k : Int} (hx : 0 ≤ x ∧ x < C) (hk : hX f N x = k) (h8 : k = 8 ∨ k = 9) (hn : nxD f N x.toNat = -1) : dS f f1 N C x = -1 := by
  unfold dS
  rw [kA_i hx, hk, if_neg (by omega), if_pos h8, if_pos hn]
theorem dS_8 {f f1 : Int → Int} {N C x k n Y s : Int} (hx : 0 ≤ x ∧ x < C) (hk : hX f N x = k) (h8 : k = 8 ∨ k = 9) (hn : nxD f N x.toNat = n) (h1 : n ≠ -1) (hy : hY f N x = Y) (hs : s = sb (fz f1 (Y + sof k)) Y (N - Y).toNat + aD f f1 N n + (N - Y + (if k = 8 then 6 else 17))) : dS f f1 N C x = dsu k (tn s) := by
  unfold dS dS0
  rw [kA_i hx, hk, if_neg (by omega), if_pos h8, hn, if_neg h1, if_neg (by omega), hy, hs]
  congr 2
  omega
end
